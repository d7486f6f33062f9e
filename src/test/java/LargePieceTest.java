import java.util.HashMap;
import java.util.HashSet;
import java.util.Map;
import java.util.Random;
import java.util.Set;

/**
 * Promises 25 to 36 and 42 over pieces of up to twelve deeds, which PlainShop with its rows one by one can't follow: the
 * deeds are read from the object, and told of by the sets with which a row can begin.
 */
public final class LargePieceTest {
    private static final Random RANDOM = new Random(2026);
    private static UndoTrade x;
    private static RandomLaw law;
    private static int size;
    private static int time;
    private static int[][] deeds;
    private static final int[] known = new int[3];
    private static final Set<Integer> starts = new HashSet<>();
    private static final Map<Integer, Integer> counts = new HashMap<>();
    private static final Map<Integer, Integer> leads = new HashMap<>();
    private static final Map<Integer, Integer> sums = new HashMap<>();

    public static void main(String[] args) {
        int large = 0;
        for (int run = 0; run < 500 && !Due.anyWrong(); run++) {
            grow(run);
            read();
            large += size >= 10 ? 1 : 0;
            rows();
            cheapest();
            places();
            needs();
            game();
            alone();
        }
        Due.due("most pieces were large", large > 250, true);
        Due.close();
    }

    private static void grow(int run) {
        x = Due.shop("ak" + RANDOM.nextInt(32) + ";ak" + RANDOM.nextInt(32) + "r0;ak" + RANDOM.nextInt(32) + "r0");
        law = run % 5 == 0 ? null : new RandomLaw(RANDOM);
        if (law != null) {
            Due.law(x, law.text);
        }
        int most = run % 10 == 0 ? RANDOM.nextInt(12) : 12;
        int parts = 2 + RANDOM.nextInt(5);
        for (int i = 0; i < 90 && x.count(1) < most; i++) {
            x.make(RANDOM.nextInt(5), RANDOM.nextInt(parts), RANDOM.nextInt(parts));
            if (i % 9 == 8) {
                x.undoes(RANDOM.nextInt(12));
            }
        }
    }

    /** All is read once: behind the 512th call of an object nothing is promised. */
    private static void read() {
        size = x.count(1);
        time = x.count(6);
        for (int a = 0; a < known.length; a++) {
            known[a] = x.apprentice(a, 0);
        }
        deeds = new int[size][];
        for (int d = 0; d < size; d++) {
            deeds[d] = new int[] {x.deed(d, 0), x.deed(d, 1), x.deed(d, 2)};
        }
        starts.clear();
        starts.add(0);
        for (int set = 0; set < 1 << size; set++) {
            for (int d = 0; d < size && starts.contains(set); d++) {
                if (follows(d, set)) {
                    starts.add(set | 1 << d);
                }
            }
        }
        counts.clear();
        leads.clear();
    }

    private static boolean follows(int deed, int set) {
        boolean fits = (set & 1 << deed) == 0;
        for (int e = 0; e < deed && fits; e++) {
            fits = !PlainShop.needs(deeds[deed], deeds[e]) || (set & 1 << e) != 0;
        }
        return fits;
    }

    private static int everything() {
        return (1 << size) - 1;
    }

    private static int price(int deed, int n, int behind) {
        int[] d = deeds[deed];
        return law == null ? d[0] + 1 : Math.max(0, Math.min(99, law.worth(d[0], d[1], d[2], n, behind, time)));
    }

    // ---- rows ----

    /** In how many ways a row that begins with the set goes on. */
    private static int count(int set) {
        if (set == everything()) {
            return 1;
        }
        if (!counts.containsKey(set)) {
            int sum = 0;
            for (int d = 0; d < size; d++) {
                sum += follows(d, set) ? count(set | 1 << d) : 0;
            }
            counts.put(set, sum);
        }
        return counts.get(set);
    }

    private static void rows() {
        int rows = x.rows();
        Due.due("P25 rows", rows, count(0));
        long seed = RANDOM.nextLong();
        int drawn = (int) (((seed * 6364136223846793005L + 1442695040888963407L) >>> 33) % rows);
        int[] some = {0, rows - 1, RANDOM.nextInt(rows), drawn};
        for (int i : some) {
            int set = 0;
            int ahead = 0;
            for (int at = 0; at < size; at++) {
                int deed = x.row(i, at);
                Due.due("P26 can follow", deed >= 0 && deed < size && follows(deed, set), true);
                for (int d = 0; d < deed; d++) {
                    ahead += follows(d, set) ? count(set | 1 << d) : 0;
                }
                set |= 1 << deed;
                if (i == drawn) {
                    Due.due("P27 drawn", x.drawn(seed, at), deed);
                }
            }
            Due.due("P26 how many ROWS are ahead of it", ahead, i);
        }
        Due.due("P26 no such ROW", x.row(rows, 0), -1);
        Due.due("P26 no such place", x.row(0, size), -1);
        Due.due("P27 no such place", x.drawn(seed, size), -1);
    }

    // ---- the row of least cost ----

    /** From the front: what rows cost at least that begin with the set and have that deed last in it. */
    private static int sum(int set, int last) {
        int key = set << 4 | last;
        if (!sums.containsKey(key)) {
            int rest = set & ~(1 << last);
            int n = Integer.bitCount(rest);
            int least = rest == 0 ? price(last, 0, 5) : Integer.MAX_VALUE;
            for (int d = 0; d < size; d++) {
                int without = rest & ~(1 << d);
                if (without != rest && starts.contains(rest) && starts.contains(without) && follows(d, without)) {
                    least = Math.min(least, sum(rest, d) + price(last, n, deeds[d][0]));
                }
            }
            sums.put(key, least);
        }
        return sums.get(key);
    }

    private static void cheapest() {
        sums.clear();
        int least = size == 0 ? 0 : Integer.MAX_VALUE;
        for (int d = 0; d < size; d++) {
            if (follows(d, everything() & ~(1 << d)) && starts.contains(everything() & ~(1 << d))) {
                least = Math.min(least, sum(everything(), d));
            }
        }
        Due.due("P28 COST", x.cheapest(-1), least);
        int set = 0;
        int cost = 0;
        int behind = 5;
        for (int at = 0; at < size; at++) {
            int deed = x.cheapest(at);
            Due.due("P28 can follow", deed >= 0 && deed < size && follows(deed, set), true);
            for (int d = 0; d < deed; d++) {
                boolean asCheap = follows(d, set)
                        && cost + price(d, at, behind) + rest(set | 1 << d, deeds[d][0]) <= least;
                Due.due("P28 none with a lower number is as cheap", asCheap, false);
            }
            cost += price(deed, at, behind);
            set |= 1 << deed;
            behind = deeds[deed][0];
        }
        Due.due("P28 its COST", cost, least);
        Due.due("P28 no such place", x.cheapest(size), -1);
    }

    /** What a row costs at least behind the set. */
    private static int rest(int set, int behind) {
        int key = -1 - (set << 3 | behind);
        if (!sums.containsKey(key)) {
            int least = set == everything() ? 0 : Integer.MAX_VALUE;
            for (int d = 0; d < size; d++) {
                if (follows(d, set)) {
                    int n = Integer.bitCount(set);
                    least = Math.min(least, price(d, n, behind) + rest(set | 1 << d, deeds[d][0]));
                }
            }
            sums.put(key, least);
        }
        return sums.get(key);
    }

    // ---- places, needs ----

    private static void places() {
        int lasts = 0;
        int firsts = 0;
        int fixed = 0;
        for (int d = 0; d < size; d++) {
            int deed = d;
            var at = starts.stream().filter(set -> follows(deed, set)).mapToInt(Integer::bitCount).summaryStatistics();
            Due.due("P29 the earliest", x.places(d, 0), at.getMin());
            Due.due("P29 the latest", x.places(d, 1), at.getMax());
            firsts |= at.getMin() == 0 ? 1 << d : 0;
            lasts |= at.getMax() == size - 1 ? 1 << d : 0;
            fixed |= at.getMin() == at.getMax() ? 1 << d : 0;
        }
        Due.due("P42 LASTS", x.all(0), lasts);
        Due.due("P42 FIRSTS", x.all(1), firsts);
        Due.due("P42 FIXED", x.all(2), fixed);
    }

    private static boolean isSure(int first, int second) {
        boolean otherWay = starts.stream().anyMatch(set -> (set & 1 << second) != 0 && (set & 1 << first) == 0);
        return first != second && !otherWay;
    }

    private static void needs() {
        for (int d = 0; d < size; d++) {
            int needs = 0;
            int needed = 0;
            for (int e = 0; e < size; e++) {
                needs |= isSure(e, d) ? 1 << e : 0;
                needed |= isSure(d, e) ? 1 << e : 0;
            }
            Due.due("P30 NEEDS", x.needs(d, 0), needs);
            Due.due("P30 NEEDED", x.needs(d, 1), needed);
            int other = RANDOM.nextInt(size);
            Due.due("P31 SURE", x.sure(d, other), isSure(d, other) ? 1 : 0);
        }
    }

    // ---- the game ----

    /** What he who is to move has more at last, if these deeds are left. */
    private static int lead(int set) {
        if (set == 0) {
            return 0;
        }
        if (!leads.containsKey(set)) {
            int best = Integer.MIN_VALUE;
            for (int d = 0; d < size; d++) {
                best = Math.max(best, gain(set, d));
            }
            leads.put(set, best);
        }
        return leads.get(set);
    }

    private static int gain(int set, int deed) {
        int rest = set & ~(1 << deed);
        return rest != set && starts.contains(rest) ? price(deed, 0, 5) - lead(rest) : Integer.MIN_VALUE;
    }

    private static void game() {
        int best = lead(everything());
        Due.due("P36 what the first has more", x.game(0), best);
        int first = -1;
        for (int d = size - 1; d >= 0; d--) {
            first = gain(everything(), d) == best ? d : first;
        }
        Due.due("P36 his first DEED", x.game(1), first);
    }

    // ---- apprentices ----

    /** The fewest deeds that can be left (bits): of all starts those whose missing deeds are all known. */
    private static int left(int known) {
        int fewest = everything();
        for (int set : starts) {
            boolean all = true;
            for (int d = 0; d < size; d++) {
                all &= (set & 1 << d) != 0 || (known & 1 << deeds[d][0]) != 0;
            }
            if (all && Integer.bitCount(set) < Integer.bitCount(fewest)) {
                fewest = set;
            }
        }
        return fewest;
    }

    private static void alone() {
        int team = 0;
        int leftByTeam = everything();
        for (int some = 0; some < 8; some++) {
            int together = 0;
            for (int a = 0; a < known.length; a++) {
                together |= (some & 1 << a) != 0 ? known[a] : 0;
            }
            int left = left(together);
            Due.due("P33 STUCK", x.stuck(some), left);
            Due.due("P32 ALONE", x.alone(some), size - Integer.bitCount(left));
            int fewer = Integer.bitCount(leftByTeam) - Integer.bitCount(left);
            if (fewer > 0 || fewer == 0 && Integer.bitCount(some) < Integer.bitCount(team)) {
                team = some;
                leftByTeam = left;
            }
        }
        Due.due("P34 TEAM", x.team(), team);
        for (int a = 0; a < known.length; a++) {
            int lesson = 31;
            for (int sorts = 30; sorts >= 0; sorts--) {
                boolean all = left(known[a] | sorts) == 0;
                lesson = all && Integer.bitCount(sorts) <= Integer.bitCount(lesson) ? sorts : lesson;
            }
            Due.due("P35 LESSON", x.lesson(a), lesson);
        }
    }
}
