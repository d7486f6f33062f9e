import java.util.ArrayList;
import java.util.Arrays;
import java.util.List;

/** The document told a second time, plainly: whole copies for each act, all rows one by one. For pieces of few deeds. */
final class PlainShop {
    private static final int NONE = -1;
    private static final int OTHER = -1000000;

    /** What a law says a deed costs. */
    interface Law {
        int worth(int w, int i, int x, int n, int b, int t);
    }

    private static final class Snap {
        List<int[]> deeds = new ArrayList<>();
        int[] known;
        boolean[] room;
        int time;
        List<int[]> log = new ArrayList<>();

        Snap copy() {
            Snap c = new Snap();
            c.deeds = new ArrayList<>(deeds);
            c.known = known.clone();
            c.room = room.clone();
            c.time = time;
            c.log = new ArrayList<>(log);
            return c;
        }
    }

    private int most;
    private Snap now = new Snap();
    private final List<Snap> past = new ArrayList<>();
    private Snap image;
    private int haste = 3;
    private final List<Law> laws = new ArrayList<>();
    private int holds = NONE;
    private final List<int[][]> makings = new ArrayList<>();
    private final List<int[]> seen = new ArrayList<>();

    /** Another workshop: laws, which holds, makings and haste stay. */
    void open(int most, int[] known, boolean[] room) {
        this.most = most;
        now = new Snap();
        now.known = known.clone();
        now.room = room.clone();
        past.clear();
        image = null;
        seen.clear();
    }

    void addLaw(Law law) {
        laws.add(law);
    }

    void addMaking(int[][] deeds) {
        makings.add(deeds);
    }

    // ---- the piece ----

    private static boolean there(List<int[]> deeds, int part) {
        return deeds.stream().anyMatch(d -> d[0] == 0 && d[1] == part);
    }

    private static int onto(List<int[]> deeds, int part) {
        return deeds.stream().filter(d -> d[0] == 3 && d[1] == part).mapToInt(d -> d[2]).findFirst().orElse(9);
    }

    private static boolean carries(List<int[]> deeds, int part) {
        return deeds.stream().anyMatch(d -> d[0] == 3 && d[2] == part);
    }

    private static long times(List<int[]> deeds, int sort, int part) {
        return deeds.stream().filter(d -> d[0] == sort && d[1] == part).count();
    }

    private boolean can(List<int[]> deeds, int sort, int part, int x) {
        if (deeds.size() >= most || part < 0 || part > 5) {
            return false;
        }
        boolean there = there(deeds, part);
        boolean joined = onto(deeds, part) != 9;
        boolean hidden = times(deeds, 4, part) > 0;
        if (sort == 0) {
            return !there && x >= 0 && x < 10;
        } else if (sort == 1) {
            return there && !joined && times(deeds, 1, part) < 3;
        } else if (sort == 2) {
            return there && !hidden && !carries(deeds, part) && times(deeds, 2, part) < 3 && x >= 1 && x <= 9;
        } else if (sort == 3) {
            if (!there || !there(deeds, x) || x == part || joined || times(deeds, 4, x) > 0) {
                return false;
            }
            for (int p = x; p != 9; p = onto(deeds, p)) {
                if (p == part) {
                    return false;
                }
            }
            return true;
        }
        return sort == 4 && joined && !hidden && !carries(deeds, part);
    }

    private static int[] deedOf(int sort, int part, int x) {
        return new int[] {sort, part, sort == 1 || sort == 4 ? 0 : x};
    }

    /** Whether b must come behind a, both of the piece, a ahead of b in the list. */
    static boolean needs(int[] b, int[] a) {
        boolean put = a[0] == 0 && (a[1] == b[1] || b[0] == 3 && a[1] == b[2]);
        boolean turns = a[0] == 1 && a[1] == b[1] && (b[0] == 1 || b[0] == 3 || b[0] == 4);
        boolean coats = a[0] == 2 && (a[1] == b[1] && (b[0] == 2 || b[0] == 4) || b[0] == 3 && a[1] == b[2]);
        boolean join = a[0] == 3 && b[0] == 4 && a[1] == b[1];
        return put || turns || coats || join;
    }

    private static boolean free(List<int[]> deeds, int d) {
        for (int e = d + 1; e < deeds.size(); e++) {
            if (needs(deeds.get(e), deeds.get(d))) {
                return false;
            }
        }
        return true;
    }

    int shape(int part, int what) {
        if (!there(now.deeds, part)) {
            return NONE;
        }
        int[] answers = new int[6];
        answers[4] = 9;
        for (int[] d : now.deeds) {
            if (d[1] == part) {
                if (d[0] == 0) {
                    answers[0] = d[2];
                } else if (d[0] == 1) {
                    answers[1]++;
                } else if (d[0] == 2) {
                    answers[2]++;
                    answers[3] = d[2];
                } else if (d[0] == 3) {
                    answers[4] = d[2];
                } else {
                    answers[5] = 1;
                }
            }
        }
        return what < 0 || what > 5 ? NONE : answers[what];
    }

    int upon(int part) {
        if (!there(now.deeds, part)) {
            return NONE;
        }
        return now.deeds.stream().filter(d -> d[0] == 3 && d[2] == part).mapToInt(d -> 1 << d[1]).sum();
    }

    int deed(int deed, int what) {
        return has(deed) && what >= 0 && what < 3 ? now.deeds.get(deed)[what] : NONE;
    }

    private boolean has(int deed) {
        return deed >= 0 && deed < now.deeds.size();
    }

    private boolean hasApprentice(int a) {
        return a >= 0 && a < now.known.length;
    }

    int apprentice(int a, int what) {
        if (!hasApprentice(a) || what < 0 || what > 1) {
            return -2;
        }
        return what == 0 ? now.known[a] : now.room[a] ? 1 : 0;
    }

    // ---- acts ----

    private void act() {
        past.add(now.copy());
        if (past.size() > 40) {
            past.remove(0);
        }
        now.time++;
    }

    private void log(int what) {
        now.log.add(new int[] {what, now.deeds.size()});
        if (now.log.size() > 60) {
            now.log.remove(0);
        }
    }

    private void doIt(int sort, int part, int x) {
        now.deeds.add(deedOf(sort, part, x));
        log(sort);
    }

    private void takeBack(int deed) {
        int sort = now.deeds.remove(deed)[0];
        for (int a = 0; a < now.known.length; a++) {
            if (now.room[a]) {
                now.known[a] |= 1 << sort;
            }
        }
        log(5 + sort);
    }

    int make(int sort, int part, int x) {
        if (now.time >= 9999 || !can(now.deeds, sort, part, x)) {
            return NONE;
        }
        act();
        doIt(sort, part, x);
        return now.deeds.size();
    }

    int undoes(int deed) {
        if (now.time >= 9999 || !has(deed) || !free(now.deeds, deed)) {
            return NONE;
        }
        act();
        takeBack(deed);
        return now.deeds.size();
    }

    int takes(int a, int deed) {
        if (!hasApprentice(a) || !has(deed) || (now.known[a] >> now.deeds.get(deed)[0]) % 2 == 0) {
            return NONE;
        }
        return undoes(deed);
    }

    int enter(int a) {
        if (now.time >= 9999 || !hasApprentice(a)) {
            return NONE;
        }
        act();
        now.room[a] = !now.room[a];
        return now.room[a] ? 1 : 0;
    }

    int forgets(int a, int sort) {
        if (now.time >= 9999 || !hasApprentice(a) || sort < 0 || sort > 4 || (now.known[a] >> sort) % 2 == 0) {
            return NONE;
        }
        act();
        now.known[a] -= 1 << sort;
        return now.known[a];
    }

    int sell() {
        if (now.time >= 9999 || now.deeds.isEmpty()) {
            return NONE;
        }
        act();
        int gone = now.deeds.size();
        now.deeds.clear();
        log(10);
        return gone;
    }

    private long seedNow;

    private int draw(int j) {
        seedNow = seedNow * 6364136223846793005L + 1442695040888963407L;
        return (int) (seedNow >>> 33) % j;
    }

    int years(int n, long seed) {
        if (n < 1 || n > 20 || now.time > 9999 - n) {
            return NONE;
        }
        seedNow = seed;
        while (n-- > 0) {
            act();
            if (draw(10) < haste) {
                List<Integer> frees = new ArrayList<>();
                for (int d = 0; d < now.deeds.size(); d++) {
                    if (free(now.deeds, d)) {
                        frees.add(d);
                    }
                }
                if (!frees.isEmpty()) {
                    takeBack(frees.get(draw(frees.size())));
                }
            } else {
                int sort = draw(5);
                int part = draw(6);
                int x = draw(6);
                if (sort == 2) {
                    x++;
                }
                if (can(now.deeds, sort, part, x)) {
                    doIt(sort, part, x);
                }
            }
        }
        return now.time;
    }

    int undo() {
        if (past.isEmpty()) {
            return NONE;
        }
        now = past.remove(past.size() - 1);
        return past.size();
    }

    int log(int i, int what) {
        int at = now.log.size() - 1 - i;
        return i < 0 || at < 0 || what < 0 || what > 1 ? NONE : now.log.get(at)[what];
    }

    boolean law(int law) {
        if (law < NONE || law >= laws.size()) {
            return false;
        }
        holds = law;
        return true;
    }

    boolean haste(int v) {
        if (v < 0 || v > 9 || v == haste) {
            return false;
        }
        haste = v;
        return true;
    }

    // ---- makings ----

    private boolean hasMaking(int making) {
        return making >= 0 && making < makings.size();
    }

    private List<int[]> follow(List<int[]> from, int making) {
        List<int[]> deeds = new ArrayList<>(from);
        for (int[] d : makings.get(making)) {
            if (!can(deeds, d[0], d[1], d[2])) {
                break;
            }
            deeds.add(d);
        }
        return deeds;
    }

    int run(int making, int what) {
        if (!hasMaking(making) || what < 0 || what > 1) {
            return OTHER;
        }
        int then = follow(now.deeds, making).size();
        int done = then - now.deeds.size();
        return what == 1 ? then : done == makings.get(making).length ? NONE : done;
    }

    int perform(int making) {
        if (!hasMaking(making)) {
            return NONE;
        }
        int done = 0;
        for (int[] d : makings.get(making)) {
            if (make(d[0], d[1], d[2]) == NONE) {
                break;
            }
            done++;
        }
        return done;
    }

    /** A text that two pieces share where they look the same. */
    private static String look(List<int[]> deeds) {
        StringBuilder text = new StringBuilder();
        for (int part = 0; part < 6; part++) {
            int p = part;
            for (int s = 0; s < 5; s++) {
                int sort = s;
                text.append('/');
                deeds.stream().filter(d -> d[0] == sort && d[1] == p).forEach(d -> text.append(d[2]).append(','));
            }
        }
        return text.toString();
    }

    int alike(int making, int other) {
        if (!hasMaking(making) || !hasMaking(other)) {
            return NONE;
        }
        return look(follow(List.of(), making)).equals(look(follow(List.of(), other))) ? 1 : 0;
    }

    // ---- costs and rows ----

    private int price(int[] d, int n, int behind, int time) {
        if (holds == NONE) {
            return d[0] + 1;
        }
        return Math.max(0, Math.min(99, laws.get(holds).worth(d[0], d[1], d[2], n, behind, time)));
    }

    int cost(int deed, int n, int behind) {
        return !has(deed) || n < 0 || n > 11 || behind < 0 || behind > 5 ? NONE
                : price(now.deeds.get(deed), n, behind, now.time);
    }

    private List<int[]> allRows() {
        List<int[]> rows = new ArrayList<>();
        goOn(new int[now.deeds.size()], 0, rows);
        return rows;
    }

    private void goOn(int[] row, int n, List<int[]> rows) {
        if (n == row.length) {
            rows.add(row.clone());
            return;
        }
        for (int d = 0; d < row.length; d++) {
            int deed = d;
            boolean fits = Arrays.stream(row, 0, n).noneMatch(e -> e == deed);
            for (int e = 0; e < d && fits; e++) {
                int other = e;
                fits = !needs(now.deeds.get(d), now.deeds.get(e)) || Arrays.stream(row, 0, n).anyMatch(f -> f == other);
            }
            if (fits) {
                row[n] = d;
                goOn(row, n + 1, rows);
            }
        }
    }

    int rows() {
        return allRows().size();
    }

    int row(int i, int at) {
        List<int[]> rows = allRows();
        return i < 0 || i >= rows.size() || !has(at) ? NONE : rows.get(i)[at];
    }

    int drawn(long seed, int at) {
        List<int[]> rows = allRows();
        seedNow = seed;
        return !has(at) ? NONE : rows.get(draw(rows.size()))[at];
    }

    int cheapest(int at) {
        if (at != NONE && !has(at)) {
            return NONE;
        }
        int least = Integer.MAX_VALUE;
        int[] best = null;
        for (int[] row : allRows()) {
            int sum = 0;
            for (int n = 0; n < row.length; n++) {
                sum += price(now.deeds.get(row[n]), n, n == 0 ? 5 : now.deeds.get(row[n - 1])[0], now.time);
            }
            if (sum < least) {
                least = sum;
                best = row;
            }
        }
        return at == NONE ? least : best[at];
    }

    private int placeIn(int[] row, int deed) {
        for (int n = 0; n < row.length; n++) {
            if (row[n] == deed) {
                return n;
            }
        }
        return NONE;
    }

    int places(int deed, int what) {
        if (!has(deed) || what < 0 || what > 1) {
            return NONE;
        }
        var found = allRows().stream().mapToInt(row -> placeIn(row, deed)).summaryStatistics();
        return what == 0 ? found.getMin() : found.getMax();
    }

    int sure(int deed, int other) {
        if (!has(deed) || !has(other)) {
            return NONE;
        }
        return allRows().stream().allMatch(row -> placeIn(row, deed) < placeIn(row, other)) ? 1 : 0;
    }

    int needs(int deed, int what) {
        if (!has(deed) || what < 0 || what > 1) {
            return NONE;
        }
        int bits = 0;
        for (int d = 0; d < now.deeds.size(); d++) {
            if ((what == 0 ? sure(d, deed) : sure(deed, d)) == 1) {
                bits |= 1 << d;
            }
        }
        return bits;
    }

    // ---- apprentices ----

    private static List<int[]> left(List<int[]> deeds, int known) {
        List<int[]> left = new ArrayList<>(deeds);
        boolean going = true;
        while (going) {
            going = false;
            for (int d = 0; d < left.size() && !going; d++) {
                if ((known >> left.get(d)[0]) % 2 == 1 && free(left, d)) {
                    left.remove(d);
                    going = true;
                }
            }
        }
        return left;
    }

    private int knownBy(int some) {
        int known = 0;
        for (int a = 0; a < now.known.length; a++) {
            known |= (some >> a) % 2 == 1 ? now.known[a] : 0;
        }
        return known;
    }

    private boolean areApprentices(int some) {
        return some >= 0 && some < 1 << now.known.length;
    }

    int alone(int some) {
        return areApprentices(some) ? now.deeds.size() - left(now.deeds, knownBy(some)).size() : NONE;
    }

    int stuck(int some) {
        if (!areApprentices(some)) {
            return NONE;
        }
        int bits = 0;
        // The same objects are in both lists.
        for (int[] d : left(now.deeds, knownBy(some))) {
            for (int i = 0; i < now.deeds.size(); i++) {
                bits |= now.deeds.get(i) == d ? 1 << i : 0;
            }
        }
        return bits;
    }

    int team() {
        int all = (1 << now.known.length) - 1;
        int best = all;
        for (int some = all; some >= 0; some--) {
            boolean most = alone(some) == alone(all);
            if (most && Integer.bitCount(some) <= Integer.bitCount(best)) {
                best = some;
            }
        }
        return best;
    }

    int lesson(int a) {
        if (!hasApprentice(a)) {
            return NONE;
        }
        int best = NONE;
        for (int sorts = 0; sorts < 32; sorts++) {
            boolean all = left(now.deeds, now.known[a] | sorts).isEmpty();
            if (all && (best == NONE || Integer.bitCount(sorts) < Integer.bitCount(best))) {
                best = sorts;
            }
        }
        return best;
    }

    int odds(int a, int chance) {
        if (!hasApprentice(a) || chance < 0 || chance > 100) {
            return NONE;
        }
        long parts = 1000000000;
        for (int i = alone(1 << a); i > 0; i--) {
            parts = parts - parts * chance / 100;
        }
        return (int) parts;
    }

    private int ahead(List<int[]> deeds) {
        int best = Integer.MIN_VALUE;
        for (int d = 0; d < deeds.size(); d++) {
            if (free(deeds, d)) {
                best = Math.max(best, gain(deeds, d));
            }
        }
        return deeds.isEmpty() ? 0 : best;
    }

    private int gain(List<int[]> deeds, int d) {
        List<int[]> rest = new ArrayList<>(deeds);
        rest.remove(d);
        return price(deeds.get(d), 0, 5, now.time) - ahead(rest);
    }

    int game(int what) {
        if (what < 0 || what > 1) {
            return OTHER;
        }
        int best = ahead(now.deeds);
        if (what == 0) {
            return best;
        }
        for (int d = 0; d < now.deeds.size(); d++) {
            if (free(now.deeds, d) && gain(now.deeds, d) == best) {
                return d;
            }
        }
        return NONE;
    }

    // ---- what costs tell ----

    int seen(int sort, int v, boolean more) {
        if (sort < 0 || sort > 4 || v < 0 || v > 99 || seen.size() >= 10) {
            return NONE;
        }
        seen.add(new int[] {sort, v, more ? 1 : 0});
        return seen.size();
    }

    int args(int sort) {
        if (sort < 0 || sort > 4) {
            return NONE;
        }
        int bits = 0;
        for (int x = 0; x < 10; x++) {
            int price = price(deedOf(sort, 0, x), 0, 5, 0);
            boolean all = seen.stream().allMatch(s -> s[0] != sort || (s[2] == 1 ? price >= s[1] : price < s[1]));
            bits |= all ? 1 << x : 0;
        }
        return bits;
    }

    int ask(int sort) {
        int bits = args(sort);
        if (bits <= 0) {
            return NONE;
        }
        int best = NONE;
        int bestApart = 99;
        for (int v = 99; v >= 0; v--) {
            int more = 0;
            int less = 0;
            for (int x = 0; x < 10; x++) {
                if ((bits >> x) % 2 == 1) {
                    if (price(deedOf(sort, 0, x), 0, 5, 0) < v) {
                        less++;
                    } else {
                        more++;
                    }
                }
            }
            if (Math.abs(more - less) <= bestApart) {
                bestApart = Math.abs(more - less);
                best = v;
            }
        }
        return best;
    }

    // ---- all, images, counts ----

    int all(int what) {
        List<int[]> rows = what < 3 ? allRows() : null;
        int size = now.deeds.size();
        int bits = 0;
        for (int d = 0; d < size && what >= 0 && what < 3; d++) {
            int deed = d;
            boolean so = what == 0 ? rows.stream().anyMatch(row -> row[size - 1] == deed)
                    : what == 1 ? rows.stream().anyMatch(row -> row[0] == deed)
                    : rows.stream().mapToInt(row -> placeIn(row, deed)).distinct().count() == 1;
            bits |= so ? 1 << d : 0;
        }
        int high = 0;
        for (int part = 0; part < 6 && what >= 3 && what < 6; part++) {
            if (there(now.deeds, part)) {
                int storeys = 0;
                for (int p = part; p != 9; p = onto(now.deeds, p)) {
                    storeys++;
                }
                high = Math.max(high, storeys);
                bits |= what == 5 || onto(now.deeds, part) == 9 ? 1 << part : 0;
            }
        }
        for (int a = 0; a < now.known.length && what == 6; a++) {
            bits |= now.room[a] ? now.known[a] : 0;
        }
        return what < 0 || what > 6 ? NONE : what == 3 ? high : bits;
    }

    int image() {
        image = now.copy();
        return now.time;
    }

    int back() {
        if (image == null) {
            return NONE;
        }
        now = image.copy();
        past.clear();
        return now.time;
    }

    int count(int what) {
        int[] answers = {now.known.length, now.deeds.size(), laws.size(), makings.size(), 0, holds, now.time, most, haste,
            seen.size(), now.log.size(), past.size()};
        return what < 0 || what >= answers.length ? OTHER : answers[what];
    }
}
