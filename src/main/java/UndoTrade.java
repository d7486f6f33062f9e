import java.util.NoSuchElementException;

/** A workshop whose master makes pieces by deeds, and whose apprentices may only take deeds back. */
public final class UndoTrade {
    public static final int NONE = -1;
    public static final int HIDDEN = -1000000;

    private static final int PUT = 0;
    private static final int TURN = 1;
    private static final int COAT = 2;
    private static final int JOIN = 3;
    private static final int HIDE = 4;
    private static final int SORTS = 5;
    /** Stands for the sort ahead of the first deed of a row. */
    private static final int NO_SORT = 5;
    private static final int BEHIND_SORTS = 6;

    private static final int PARTS = 6;
    /** What a part that is not joined says of where it stands. */
    private static final int NOWHERE = 9;
    private static final int MOST_DIGIT = 9;
    private static final int MOST_TURNS = 3;
    private static final int MOST_COATS = 3;

    private static final int MOST_DEEDS = 12;
    private static final int MOST_STEPS = 16;
    private static final int MOST_APPRENTICES = 4;
    private static final int MOST_KNOWN = 31;
    private static final int MOST_TEXTS = 4;
    private static final int MOST_BYTES = 240;
    private static final int MOST_UNDONE = 40;
    private static final int MOST_LOGGED = 60;
    private static final int MOST_SEEN = 10;
    private static final int MOST_YEARS = 20;
    private static final int MOST_HASTE = 9;
    private static final int LAST_TIME = 9999;
    private static final int MOST_COST = 99;
    private static final int CHOICES_OF_X = 10;
    private static final int SUBSETS = 1 << MOST_DEEDS;

    private static final int LOG_TAKEN = 5;
    private static final int LOG_SOLD = 10;

    private static final int WORKSHOP_TEXT = 0;
    private static final int LAW_TEXT = 1;
    private static final int MAKING_TEXT = 2;
    private static final int NO_SUCH_TEXT = -2;

    private final Tape tape = new Tape();
    private final State now = new State();
    private final State draft = new State();
    private final State kept = new State();
    private boolean keeps = false;
    private final Past past = new Past();
    private final LawBook book = new LawBook();
    private final LawText lawText = new LawText();
    private final DeedList[] makings = new DeedList[MOST_TEXTS];
    private int makingsTold = 0;
    private final DeedList draftMaking = new DeedList();
    private final DeedList trial = new DeedList();
    private final DeedList otherTrial = new DeedList();
    private final Order order = new Order();
    private final SeenList sights = new SeenList();
    private final Draws draws = new Draws();
    private int hasteNow = 3;

    public UndoTrade() {
        for (int i = 0; i < MOST_TEXTS; i++) {
            makings[i] = new DeedList();
        }
    }

    // ---- texts ----

    public int feed(int a, int b, int c, int d, int e) {
        int more = Tape.signsOf(a) + Tape.signsOf(b) + Tape.signsOf(c) + Tape.signsOf(d) + Tape.signsOf(e);
        if (tape.length + more > MOST_BYTES) {
            return NONE;
        }
        tape.append(a);
        tape.append(b);
        tape.append(c);
        tape.append(d);
        tape.append(e);
        return tape.length;
    }

    public boolean end(int n) {
        if (n < 0 || n > tape.length) {
            return false;
        }
        tape.length = n;
        return true;
    }

    public int fault(int sort) {
        if (sort < WORKSHOP_TEXT || sort > MAKING_TEXT) {
            return NO_SUCH_TEXT;
        }
        return reads(sort) ? NONE : tape.at;
    }

    public int text(int sort) {
        if (sort < WORKSHOP_TEXT || sort > MAKING_TEXT || !reads(sort)) {
            return NONE;
        }
        int answer;
        if (sort == WORKSHOP_TEXT) {
            answer = openWorkshop();
        } else if (sort == LAW_TEXT) {
            answer = book.keep(lawText.law);
        } else {
            answer = keepMaking();
        }
        if (answer != NONE) {
            tape.length = 0;
        }
        return answer;
    }

    /** Reads the tape into the draft of that sort; where it fails, the tape stands at the fault. */
    private boolean reads(int sort) {
        tape.at = 0;
        if (sort == WORKSHOP_TEXT) {
            return draft.readFrom(tape);
        }
        return sort == LAW_TEXT ? lawText.readFrom(tape) : draftMaking.readFrom(tape);
    }

    private int openWorkshop() {
        now.copyFrom(draft);
        past.clear();
        keeps = false;
        sights.held = 0;
        return now.apprentices;
    }

    private int keepMaking() {
        if (makingsTold >= MOST_TEXTS) {
            return NONE;
        }
        makings[makingsTold].copyFrom(draftMaking);
        makingsTold++;
        return makingsTold - 1;
    }

    // ---- what stands ----

    public int apprentice(int apprentice, int what) throws NoSuchElementException {
        if (!now.hasApprentice(apprentice) || what < 0 || what > 1) {
            throw new NoSuchElementException("no such apprentice or question");
        }
        return what == 0 ? now.known[apprentice] : now.inRoom[apprentice];
    }

    public int shape(int part, int what) {
        DeedList piece = now.piece;
        int put = piece.lastOf(PUT, part);
        if (put == NONE) {
            return NONE;
        }
        switch (what) {
            case 0:
                return piece.xs[put];
            case 1:
                return piece.timesOf(TURN, part);
            case 2:
                return piece.timesOf(COAT, part);
            case 3:
                return piece.lastColour(part);
            case 4:
                return piece.under(part);
            case 5:
                return piece.isHidden(part) ? 1 : 0;
            default:
                return NONE;
        }
    }

    public int deed(int deed, int what) {
        return now.piece.tell(deed, what);
    }

    public boolean law(int law) {
        if (law != NONE && (law < 0 || law >= book.told)) {
            return false;
        }
        book.holds = law;
        return true;
    }

    public boolean haste(int v) {
        if (v < 0 || v > MOST_HASTE || v == hasteNow) {
            return false;
        }
        hasteNow = v;
        return true;
    }

    // ---- acts ----

    public int make(int sort, int part, int x) {
        if (!canAct() || !now.piece.canBe(sort, part, x, now.limit)) {
            return NONE;
        }
        beginAct();
        now.doDeed(sort, part, x);
        return now.piece.size;
    }

    public int undoes(int deed) {
        if (!canAct() || !now.piece.canBeTakenBack(deed)) {
            return NONE;
        }
        beginAct();
        now.takeBack(deed);
        return now.piece.size;
    }

    public int takes(int apprentice, int deed) {
        if (!now.piece.has(deed) || !now.knows(apprentice, now.piece.sorts[deed])) {
            return NONE;
        }
        return undoes(deed);
    }

    public int enter(int apprentice) {
        if (!canAct() || !now.hasApprentice(apprentice)) {
            return NONE;
        }
        beginAct();
        now.inRoom[apprentice] = 1 - now.inRoom[apprentice];
        return now.inRoom[apprentice];
    }

    public int forgets(int apprentice, int sort) {
        if (!canAct() || !isSort(sort) || !now.knows(apprentice, sort)) {
            return NONE;
        }
        beginAct();
        now.known[apprentice] &= ~(1 << sort);
        return now.known[apprentice];
    }

    public int sell() {
        int gone = now.piece.size;
        if (!canAct() || gone == 0) {
            return NONE;
        }
        beginAct();
        now.piece.size = 0;
        now.note(LOG_SOLD);
        return gone;
    }

    public int years(int n, long seed) {
        if (!isOpen() || n < 1 || n > MOST_YEARS || now.time + n > LAST_TIME) {
            return NONE;
        }
        draws.x = seed;
        for (int year = 0; year < n; year++) {
            beginAct();
            if (draws.below(10) < hasteNow) {
                takeBackByDraw();
            } else {
                doByDraw();
            }
        }
        return now.time;
    }

    public int undo() {
        return past.restore(now);
    }

    public int perform(int making) {
        if (!isOpen() || !isMaking(making)) {
            return NONE;
        }
        DeedList steps = makings[making];
        for (int i = 0; i < steps.size; i++) {
            if (make(steps.sorts[i], steps.parts[i], steps.xs[i]) == NONE) {
                return i;
            }
        }
        return steps.size;
    }

    private boolean isOpen() {
        return now.apprentices > 0;
    }

    private boolean canAct() {
        return isOpen() && now.time < LAST_TIME;
    }

    private void beginAct() {
        past.save(now);
        now.time++;
    }

    private void takeBackByDraw() {
        int free = 0;
        for (int d = 0; d < now.piece.size; d++) {
            free += now.piece.canBeTakenBack(d) ? 1 : 0;
        }
        if (free == 0) {
            return;
        }
        int passed = draws.below(free);
        for (int d = 0; d < now.piece.size; d++) {
            if (!now.piece.canBeTakenBack(d)) {
                continue;
            }
            if (passed == 0) {
                now.takeBack(d);
                return;
            }
            passed--;
        }
    }

    private void doByDraw() {
        int sort = draws.below(SORTS);
        int part = draws.below(PARTS);
        int x = draws.below(6) + (sort == COAT ? 1 : 0);
        if (now.piece.canBe(sort, part, x, now.limit)) {
            now.doDeed(sort, part, x);
        }
    }

    private static int within(int least, long number, int most) {
        if (number < least) {
            return least;
        }
        return number > most ? most : (int) number;
    }

    private static boolean isSort(int sort) {
        return sort >= 0 && sort < SORTS;
    }

    private boolean isMaking(int making) {
        return making >= 0 && making < makingsTold;
    }

    // ---- log, makings ----

    public int log(int i, int what) {
        if (i < 0 || i >= now.logLength() || what < 0 || what > 1) {
            return NONE;
        }
        int place = (now.logged - 1 - i) % MOST_LOGGED;
        return what == 0 ? now.logWhat[place] : now.logDeeds[place];
    }

    public int step(int making, int i, int what) {
        return isMaking(making) ? makings[making].tell(i, what) : NONE;
    }

    public int run(int making, int what) {
        if (!isOpen() || !isMaking(making) || what < 0 || what > 1) {
            return HIDDEN;
        }
        trial.copyFrom(now.piece);
        int done = trial.follow(makings[making], now.limit);
        if (what == 1) {
            return trial.size;
        }
        return done == makings[making].size ? NONE : done;
    }

    public int alike(int making, int other) {
        if (!isOpen() || !isMaking(making) || !isMaking(other)) {
            return NONE;
        }
        trial.size = 0;
        trial.follow(makings[making], now.limit);
        otherTrial.size = 0;
        otherTrial.follow(makings[other], now.limit);
        return trial.looksLike(otherTrial) ? 1 : 0;
    }

    // ---- costs and rows ----

    public int cost(int deed, int n, int behind) {
        if (!now.piece.has(deed) || n < 0 || n >= MOST_DEEDS || behind < 0 || behind > NO_SORT) {
            return NONE;
        }
        DeedList piece = now.piece;
        return book.priceOf(piece.sorts[deed], piece.parts[deed], piece.xs[deed], n, behind, now.time);
    }

    public int rows() {
        if (!isOpen()) {
            return NONE;
        }
        order.look(now.piece);
        return order.countWays();
    }

    public int row(int i, int at) {
        if (!now.piece.has(at)) {
            return NONE;
        }
        order.look(now.piece);
        int ways = order.countWays();
        return i < 0 || i >= ways ? NONE : order.deedOfWay(i, at);
    }

    public int drawn(long seed, int at) {
        if (!now.piece.has(at)) {
            return NONE;
        }
        order.look(now.piece);
        draws.x = seed;
        return order.deedOfWay(draws.below(order.countWays()), at);
    }

    public int cheapest(int at) {
        if (!isOpen() || (at != NONE && !now.piece.has(at))) {
            return NONE;
        }
        order.look(now.piece);
        int least = order.findLeast(book, now.time);
        return at == NONE ? least : order.deedOfLeast(at);
    }

    public int places(int deed, int what) {
        if (!now.piece.has(deed) || what < 0 || what > 1) {
            return NONE;
        }
        order.look(now.piece);
        return what == 0 ? order.earliest(deed) : order.latest(deed);
    }

    public int needs(int deed, int what) {
        if (!now.piece.has(deed) || what < 0 || what > 1) {
            return NONE;
        }
        order.look(now.piece);
        return what == 0 ? order.below[deed] : order.above[deed];
    }

    public int sure(int deed, int other) {
        if (!now.piece.has(deed) || !now.piece.has(other)) {
            return NONE;
        }
        order.look(now.piece);
        return order.below[other] >> deed & 1;
    }

    // ---- apprentices alone ----

    public int alone(int apprentices) {
        int left = stuck(apprentices);
        return left == NONE ? NONE : now.piece.size - Integer.bitCount(left);
    }

    public int stuck(int apprentices) {
        if (!isOpen() || apprentices < 0 || apprentices >= 1 << now.apprentices) {
            return NONE;
        }
        order.look(now.piece);
        return order.leftBy(now.knownTogether(apprentices));
    }

    public int team() {
        if (!isOpen()) {
            return NONE;
        }
        order.look(now.piece);
        int best = 0;
        int leftByBest = now.piece.size;
        for (int some = 1; some < 1 << now.apprentices; some++) {
            int left = Integer.bitCount(order.leftBy(now.knownTogether(some)));
            boolean fewer = Integer.bitCount(some) < Integer.bitCount(best);
            if (left < leftByBest || (left == leftByBest && fewer)) {
                best = some;
                leftByBest = left;
            }
        }
        return best;
    }

    public int lesson(int apprentice) {
        if (!now.hasApprentice(apprentice)) {
            return NONE;
        }
        // To take back all, each sort that the piece has must be known, and no other.
        int wanted = 0;
        for (int d = 0; d < now.piece.size; d++) {
            wanted |= 1 << now.piece.sorts[d];
        }
        return wanted & ~now.known[apprentice];
    }

    public int game(int what) {
        if (!isOpen() || what < 0 || what > 1) {
            return HIDDEN;
        }
        order.look(now.piece);
        int ahead = order.playGame(book, now.time);
        return what == 0 ? ahead : order.firstMove();
    }

    public int odds(int apprentice, int chance) {
        if (!now.hasApprentice(apprentice) || chance < 0 || chance > 100) {
            return NONE;
        }
        int taken = alone(1 << apprentice);
        long parts = 1000000000L;
        for (int i = 0; i < taken; i++) {
            parts -= parts * chance / 100;
        }
        return (int) parts;
    }

    // ---- what costs tell ----

    public int seen(int sort, int v, boolean more) {
        if (!isOpen() || !isSort(sort) || v < 0 || v > MOST_COST || sights.held >= MOST_SEEN) {
            return NONE;
        }
        sights.add(sort, v, more);
        return sights.held;
    }

    public int args(int sort) {
        return isOpen() && isSort(sort) ? sights.fitting(book, sort) : NONE;
    }

    public int ask(int sort) {
        return isOpen() && isSort(sort) ? sights.bestQuestion(book, sort) : NONE;
    }

    // ---- the piece, images, counts ----

    public int upon(int part) {
        return now.piece.isThere(part) ? now.piece.over(part) : NONE;
    }

    public int all(int what) {
        if (!isOpen()) {
            return NONE;
        }
        order.look(now.piece);
        switch (what) {
            case 0:
                return order.lasts();
            case 1:
                return order.firsts();
            case 2:
                return order.fixed();
            case 3:
                return now.piece.height();
            case 4:
                return now.piece.looseParts();
            case 5:
                return now.piece.partsThere();
            case 6:
                return now.knownTogether(now.thoseInRoom());
            default:
                return NONE;
        }
    }

    public int image() {
        if (!isOpen()) {
            return NONE;
        }
        kept.copyFrom(now);
        keeps = true;
        return now.time;
    }

    public int back() {
        if (!keeps) {
            return NONE;
        }
        now.copyFrom(kept);
        past.clear();
        return now.time;
    }

    public int count(int what) {
        switch (what) {
            case 0:
                return now.apprentices;
            case 1:
                return now.piece.size;
            case 2:
                return book.told;
            case 3:
                return makingsTold;
            case 4:
                return tape.length;
            case 5:
                return book.holds;
            case 6:
                return now.time;
            case 7:
                return isOpen() ? now.limit : 0;
            case 8:
                return hasteNow;
            case 9:
                return sights.held;
            case 10:
                return now.logLength();
            case 11:
                return past.held;
            default:
                return HIDDEN;
        }
    }

    /** The bytes that were fed, and the place up to which they are read. */
    private static final class Tape {
        static final int ENDED = -1;
        private static final int BLANK = 32;
        private final int[] signs = new int[MOST_BYTES];
        int length = 0;
        int at = 0;

        static int signsOf(int word) {
            int found = 0;
            for (int shift = 24; shift >= 0; shift -= 8) {
                found += (word >>> shift & 255) == 0 ? 0 : 1;
            }
            return found;
        }

        void append(int word) {
            for (int shift = 24; shift >= 0; shift -= 8) {
                int sign = word >>> shift & 255;
                if (sign != 0 && length < MOST_BYTES) {
                    signs[length] = sign;
                    length++;
                }
            }
        }

        /** The next sign that is no blank; the tape stands at it then (at its length: ENDED). */
        int peek() {
            for (int i = at; i < length && signs[i] == BLANK; i++) {
                at = i + 1;
            }
            return at < length ? signs[at] : ENDED;
        }

        boolean accept(int sign) {
            if (peek() != sign) {
                return false;
            }
            at++;
            return true;
        }

        static boolean isDigit(int sign) {
            return sign >= '0' && sign <= '9';
        }

        /** One digit; NONE: the next sign is none. */
        int readDigit() {
            int sign = peek();
            if (!isDigit(sign)) {
                return NONE;
            }
            at++;
            return sign - '0';
        }

        /** A number of at most so many digits; NONE: there is none, or the tape stands at a digit too many. */
        int readNumber(int mostDigits) {
            int number = readDigit();
            if (number == NONE) {
                return NONE;
            }
            for (int digits = 1; at < length && isDigit(signs[at]); digits++) {
                if (digits >= mostDigits) {
                    return NONE;
                }
                number = number * 10 + signs[at] - '0';
                at++;
            }
            return number;
        }

        /** A number of one or two digits within bounds; NONE: it is not, and the tape stands at its last digit. */
        int readBounded(int least, int most) {
            int number = readNumber(2);
            if (number != NONE && (number < least || number > most)) {
                at--;
                return NONE;
            }
            return number;
        }
    }

    /** Deeds one behind the other: the piece itself or what a making tells, and what the deeds make. */
    private static final class DeedList {
        final int[] sorts = new int[MOST_STEPS];
        final int[] parts = new int[MOST_STEPS];
        final int[] xs = new int[MOST_STEPS];
        int size = 0;

        void copyFrom(DeedList other) {
            size = other.size;
            System.arraycopy(other.sorts, 0, sorts, 0, size);
            System.arraycopy(other.parts, 0, parts, 0, size);
            System.arraycopy(other.xs, 0, xs, 0, size);
        }

        boolean has(int deed) {
            return deed >= 0 && deed < size;
        }

        int tell(int deed, int what) {
            if (!has(deed)) {
                return NONE;
            }
            switch (what) {
                case 0:
                    return sorts[deed];
                case 1:
                    return parts[deed];
                case 2:
                    return xs[deed];
                default:
                    return NONE;
            }
        }

        void add(int sort, int part, int x) {
            if (size >= MOST_STEPS) {
                return;
            }
            sorts[size] = sort;
            parts[size] = part;
            xs[size] = tellsX(sort) ? x : 0;
            size++;
        }

        void drop(int deed) {
            if (!has(deed)) {
                return;
            }
            for (int d = deed; d + 1 < size; d++) {
                sorts[d] = sorts[d + 1];
                parts[d] = parts[d + 1];
                xs[d] = xs[d + 1];
            }
            size--;
        }

        static boolean tellsX(int sort) {
            return sort == PUT || sort == COAT || sort == JOIN;
        }

        // -- a making's text --

        boolean readFrom(Tape tape) {
            size = 0;
            for (int i = 0; i < MOST_STEPS; i++) {
                if (!readDeed(tape)) {
                    return false;
                }
                if (tape.peek() == Tape.ENDED) {
                    return true;
                }
                // The sign ahead of a deed too many is itself the fault: it is not passed.
                if (size >= MOST_STEPS || !tape.accept(';')) {
                    return false;
                }
            }
            return false;
        }

        private boolean readDeed(Tape tape) {
            int sort = sortOf(tape.peek());
            if (sort == NONE) {
                return false;
            }
            tape.at++;
            int part = tape.readDigit();
            if (part == NONE) {
                return false;
            }
            int x = tellsX(sort) ? tape.readDigit() : 0;
            if (x == NONE) {
                return false;
            }
            add(sort, part, x);
            return true;
        }

        private static int sortOf(int sign) {
            switch (sign) {
                case 'p':
                    return PUT;
                case 't':
                    return TURN;
                case 'c':
                    return COAT;
                case 'j':
                    return JOIN;
                case 'h':
                    return HIDE;
                default:
                    return NONE;
            }
        }

        // -- what the deeds make --

        int lastOf(int sort, int part) {
            for (int d = size - 1; d >= 0; d--) {
                if (sorts[d] == sort && parts[d] == part) {
                    return d;
                }
            }
            return NONE;
        }

        int timesOf(int sort, int part) {
            int times = 0;
            for (int d = 0; d < size; d++) {
                times += sorts[d] == sort && parts[d] == part ? 1 : 0;
            }
            return times;
        }

        boolean isThere(int part) {
            return lastOf(PUT, part) != NONE;
        }

        boolean isHidden(int part) {
            return lastOf(HIDE, part) != NONE;
        }

        int kind(int part) {
            int put = lastOf(PUT, part);
            return put == NONE ? NONE : xs[put];
        }

        int lastColour(int part) {
            int coat = lastOf(COAT, part);
            return coat == NONE ? 0 : xs[coat];
        }

        /** The part onto which this one is joined, or NOWHERE. */
        int under(int part) {
            int join = lastOf(JOIN, part);
            return join == NONE ? NOWHERE : xs[join];
        }

        /** The parts (bits) joined onto this one. */
        int over(int part) {
            int found = 0;
            for (int d = 0; d < size; d++) {
                if (sorts[d] == JOIN && xs[d] == part) {
                    found |= 1 << parts[d];
                }
            }
            return found;
        }

        /** How many parts stand from this one down to the one that is joined onto none. */
        private int storeys(int part) {
            int found = 1;
            int lower = under(part);
            for (int i = 0; i < PARTS && lower != NOWHERE; i++) {
                found++;
                lower = under(lower);
            }
            return found;
        }

        int height() {
            int highest = 0;
            for (int part = 0; part < PARTS; part++) {
                if (isThere(part)) {
                    highest = Math.max(highest, storeys(part));
                }
            }
            return highest;
        }

        int partsThere() {
            int found = 0;
            for (int part = 0; part < PARTS; part++) {
                found |= isThere(part) ? 1 << part : 0;
            }
            return found;
        }

        int looseParts() {
            int found = partsThere();
            for (int part = 0; part < PARTS; part++) {
                if (under(part) != NOWHERE) {
                    found &= ~(1 << part);
                }
            }
            return found;
        }

        // -- what can be --

        boolean canBe(int sort, int part, int x, int limit) {
            if (size >= limit || part < 0 || part >= PARTS) {
                return false;
            }
            if (sort == PUT) {
                return x >= 0 && x <= MOST_DIGIT && !isThere(part);
            }
            if (!isThere(part)) {
                return false;
            }
            switch (sort) {
                case TURN:
                    return under(part) == NOWHERE && timesOf(TURN, part) < MOST_TURNS;
                case COAT:
                    return x >= 1 && x <= MOST_DIGIT && !isHidden(part) && over(part) == 0
                            && timesOf(COAT, part) < MOST_COATS;
                case JOIN:
                    return x != part && isThere(x) && under(part) == NOWHERE && !isHidden(x) && !standsOn(x, part);
                case HIDE:
                    return under(part) != NOWHERE && !isHidden(part) && over(part) == 0;
                default:
                    return false;
            }
        }

        private boolean standsOn(int upper, int lower) {
            int part = upper;
            for (int i = 0; i < PARTS && part != NOWHERE; i++) {
                part = under(part);
                if (part == lower) {
                    return true;
                }
            }
            return false;
        }

        /** Whether the deed itself (not through others) needs the other one. */
        boolean leansOn(int deed, int other) {
            if (other >= deed) {
                return false;
            }
            int otherSort = sorts[other];
            boolean ofPart = parts[other] == parts[deed];
            boolean ofMate = sorts[deed] == JOIN && parts[other] == xs[deed];
            if (otherSort == PUT) {
                return ofPart || ofMate;
            }
            switch (sorts[deed]) {
                case TURN:
                    return ofPart && otherSort == TURN;
                case COAT:
                    return ofPart && otherSort == COAT;
                case JOIN:
                    return (ofPart && otherSort == TURN) || (ofMate && otherSort == COAT);
                case HIDE:
                    return ofPart && (otherSort == JOIN || otherSort == COAT || otherSort == TURN);
                default:
                    return false;
            }
        }

        boolean canBeTakenBack(int deed) {
            if (!has(deed)) {
                return false;
            }
            for (int d = deed + 1; d < size; d++) {
                if (leansOn(d, deed)) {
                    return false;
                }
            }
            return true;
        }

        /** Does the steps up to the first that can't be: how many were done. */
        int follow(DeedList steps, int limit) {
            for (int i = 0; i < steps.size; i++) {
                if (!canBe(steps.sorts[i], steps.parts[i], steps.xs[i], limit)) {
                    return i;
                }
                add(steps.sorts[i], steps.parts[i], steps.xs[i]);
            }
            return steps.size;
        }

        boolean looksLike(DeedList other) {
            for (int part = 0; part < PARTS; part++) {
                boolean same = kind(part) == other.kind(part)
                        && timesOf(TURN, part) == other.timesOf(TURN, part)
                        && coatsAsNumber(part) == other.coatsAsNumber(part)
                        && under(part) == other.under(part)
                        && isHidden(part) == other.isHidden(part);
                if (!same) {
                    return false;
                }
            }
            return true;
        }

        /** The colours one over the other, a digit each. */
        private int coatsAsNumber(int part) {
            int number = 0;
            for (int d = 0; d < size; d++) {
                if (sorts[d] == COAT && parts[d] == part) {
                    number = number * 10 + xs[d];
                }
            }
            return number;
        }
    }

    /** All that an act can change, and what the workshop's text tells. */
    private static final class State {
        final DeedList piece = new DeedList();
        final int[] known = new int[MOST_APPRENTICES];
        final int[] inRoom = new int[MOST_APPRENTICES];
        int apprentices = 0;
        int limit = MOST_DEEDS;
        int time = 0;
        final int[] logWhat = new int[MOST_LOGGED];
        final int[] logDeeds = new int[MOST_LOGGED];
        /** How many were ever logged; the latest ones lie in the rows above, going round. */
        int logged = 0;

        void copyFrom(State other) {
            piece.copyFrom(other.piece);
            System.arraycopy(other.known, 0, known, 0, MOST_APPRENTICES);
            System.arraycopy(other.inRoom, 0, inRoom, 0, MOST_APPRENTICES);
            apprentices = other.apprentices;
            limit = other.limit;
            time = other.time;
            System.arraycopy(other.logWhat, 0, logWhat, 0, MOST_LOGGED);
            System.arraycopy(other.logDeeds, 0, logDeeds, 0, MOST_LOGGED);
            logged = other.logged;
        }

        // -- the workshop's text --

        boolean readFrom(Tape tape) {
            apprentices = 0;
            limit = MOST_DEEDS;
            boolean ruled = false;
            for (int clause = 0; clause <= MOST_APPRENTICES + 1; clause++) {
                int sign = tape.peek();
                if (sign == 's' && !ruled) {
                    ruled = true;
                    tape.at++;
                    if (!readRules(tape)) {
                        return false;
                    }
                } else if (sign == 'a' && apprentices < MOST_APPRENTICES) {
                    tape.at++;
                    if (!readApprentice(tape)) {
                        return false;
                    }
                } else {
                    return false;
                }
                if (tape.peek() == Tape.ENDED) {
                    return apprentices > 0;
                }
                if (!tape.accept(';')) {
                    return false;
                }
            }
            return false;
        }

        private boolean readRules(Tape tape) {
            if (!tape.accept('m')) {
                return true;
            }
            int most = tape.readBounded(1, MOST_DEEDS);
            limit = most;
            return most != NONE;
        }

        private boolean readApprentice(Tape tape) {
            int knows = NONE;
            int room = NONE;
            for (int item = 0; item < 2; item++) {
                if (knows == NONE && tape.accept('k')) {
                    knows = tape.readBounded(0, MOST_KNOWN);
                    if (knows == NONE) {
                        return false;
                    }
                } else if (room == NONE && tape.accept('r')) {
                    room = tape.readBounded(0, 1);
                    if (room == NONE) {
                        return false;
                    }
                }
            }
            known[apprentices] = knows == NONE ? 0 : knows;
            inRoom[apprentices] = room == NONE ? 1 : room;
            apprentices++;
            return true;
        }

        // -- apprentices --

        boolean hasApprentice(int apprentice) {
            return apprentice >= 0 && apprentice < apprentices;
        }

        boolean knows(int apprentice, int sort) {
            return hasApprentice(apprentice) && (known[apprentice] >> sort & 1) != 0;
        }

        int knownTogether(int some) {
            int together = 0;
            for (int a = 0; a < apprentices; a++) {
                together |= (some >> a & 1) != 0 ? known[a] : 0;
            }
            return together;
        }

        int thoseInRoom() {
            int some = 0;
            for (int a = 0; a < apprentices; a++) {
                some |= inRoom[a] << a;
            }
            return some;
        }

        // -- deeds --

        void doDeed(int sort, int part, int x) {
            piece.add(sort, part, x);
            note(sort);
        }

        void takeBack(int deed) {
            if (!piece.has(deed)) {
                return;
            }
            int sort = piece.sorts[deed];
            piece.drop(deed);
            for (int a = 0; a < apprentices; a++) {
                known[a] |= inRoom[a] << sort;
            }
            note(LOG_TAKEN + sort);
        }

        void note(int what) {
            int place = logged % MOST_LOGGED;
            logWhat[place] = what;
            logDeeds[place] = piece.size;
            logged++;
        }

        int logLength() {
            return Math.min(logged, MOST_LOGGED);
        }
    }

    /** The states ahead of the latest acts. */
    private static final class Past {
        private final State[] states = new State[MOST_UNDONE];
        private int oldest = 0;
        int held = 0;

        Past() {
            for (int i = 0; i < MOST_UNDONE; i++) {
                states[i] = new State();
            }
        }

        void clear() {
            held = 0;
        }

        void save(State state) {
            if (held == MOST_UNDONE) {
                oldest = (oldest + 1) % MOST_UNDONE;
                held--;
            }
            states[(oldest + held) % MOST_UNDONE].copyFrom(state);
            held++;
        }

        /** The state is as it was ahead of the latest act: how many acts are held still, NONE: there was none. */
        int restore(State state) {
            if (held == 0) {
                return NONE;
            }
            held--;
            state.copyFrom(states[(oldest + held) % MOST_UNDONE]);
            return held;
        }
    }

    /** Numbers drawn from a seed. */
    private static final class Draws {
        long x = 0;

        int below(int j) {
            x = x * 6364136223846793005L + 1442695040888963407L;
            return j <= 0 ? 0 : (int) ((x >>> 33) % j);
        }
    }

    /** A law as signs in the order in which they are worked off: what they join stands ahead of them. */
    private static final class Law {
        /** Numbers are themselves; letters and other signs stand above all numbers. */
        private static final int FIRST_LETTER = 10000;
        private static final int FIRST_SIGN = 20000;
        static final int STOP = FIRST_SIGN;
        private static final int LIMIT = 1000000;
        private static final int MOST_CODE = 2 * MOST_BYTES;
        private static final int MOST_STACK = 64;
        private final int[] code = new int[MOST_CODE];
        private final int[] stack = new int[MOST_STACK];
        int size = 0;

        void copyFrom(Law other) {
            size = other.size;
            System.arraycopy(other.code, 0, code, 0, size);
        }

        void addNumber(int number) {
            if (size < MOST_CODE) {
                code[size] = number;
                size++;
            }
        }

        void addLetter(int letter) {
            addNumber(FIRST_LETTER + letter);
        }

        void addSign(int sign) {
            addNumber(FIRST_SIGN + sign);
        }

        void addStop() {
            addNumber(STOP);
        }

        /** Where the clause's sum begins: the place that is to tell where the next clause begins. */
        int addQuestion() {
            addSign('?');
            addNumber(size);
            return size - 1;
        }

        void setNextClause(int place) {
            if (place >= 0 && place < size) {
                code[place] = size;
            }
        }

        int worth(int[] letters) {
            int top = 0;
            for (int at = 0; at < size; at++) {
                int sign = code[at];
                if (sign < FIRST_SIGN) {
                    if (top >= MOST_STACK) {
                        return 0;
                    }
                    stack[top] = sign < FIRST_LETTER ? sign : letterOf(letters, sign - FIRST_LETTER);
                    top++;
                } else if (top == 0) {
                    return 0;
                } else if (sign == STOP) {
                    return stack[top - 1];
                } else if (sign == FIRST_SIGN + '!') {
                    stack[top - 1] = 1 - stack[top - 1];
                } else if (sign == FIRST_SIGN + '?') {
                    top--;
                    at++;
                    if (stack[top] == 0 && at < size && code[at] > at) {
                        at = code[at] - 1;
                    }
                } else if (top == 1) {
                    return 0;
                } else {
                    top--;
                    stack[top - 1] = joined(stack[top - 1], sign - FIRST_SIGN, stack[top]);
                }
            }
            return 0;
        }

        private static int letterOf(int[] letters, int letter) {
            return letter < letters.length ? letters[letter] : 0;
        }

        private static int joined(int left, int sign, int right) {
            switch (sign) {
                case '+':
                    return within(-LIMIT, left + right, LIMIT);
                case '-':
                    return within(-LIMIT, left - right, LIMIT);
                case '*':
                    return within(-LIMIT, (long) left * right, LIMIT);
                case '/':
                    return right == 0 ? 0 : left / right;
                case '=':
                    return left == right ? 1 : 0;
                case '<':
                    return left < right ? 1 : 0;
                case '>':
                    return left > right ? 1 : 0;
                case '&':
                    return left & right;
                default:
                    return left | right;
            }
        }
    }

    /** Reads a law's text. Each of its methods answers whether the text can be so; the tape stands at a fault. */
    private static final class LawText {
        private static final int MOST_DEPTH = 6;
        private static final int MOST_NUMBER_DIGITS = 4;
        final Law law = new Law();

        boolean readFrom(Tape tape) {
            law.size = 0;
            for (int clause = 0; clause < MOST_BYTES; clause++) {
                if (!readClause(tape)) {
                    return false;
                }
                if (tape.peek() == Tape.ENDED) {
                    return true;
                }
                if (!tape.accept(';')) {
                    return false;
                }
            }
            return false;
        }

        private boolean readClause(Tape tape) {
            if (!tape.accept('y') || !tape.accept(':')) {
                return false;
            }
            int sign = tape.peek();
            boolean sumStands = sign != '!' && sign != '(';
            if (sumStands) {
                if (!readSum(tape, 0)) {
                    return false;
                }
                if (!isCompare(tape.peek())) {
                    law.addStop();
                    return true;
                }
            }
            if (!readCondition(tape, 0, sumStands) || !tape.accept('?')) {
                return false;
            }
            int question = law.addQuestion();
            if (!readSum(tape, 0)) {
                return false;
            }
            law.addStop();
            law.setNextClause(question);
            return true;
        }

        /** sumStands: the sum with which it begins has been read. */
        private boolean readCondition(Tape tape, int depth, boolean sumStands) {
            if (!readTruth(tape, depth, sumStands)) {
                return false;
            }
            for (int more = 0; more < MOST_BYTES && tape.accept('|'); more++) {
                if (!readTruth(tape, depth, false)) {
                    return false;
                }
                law.addSign('|');
            }
            return true;
        }

        private boolean readTruth(Tape tape, int depth, boolean sumStands) {
            if (!readUnit(tape, depth, sumStands)) {
                return false;
            }
            for (int more = 0; more < MOST_BYTES && tape.accept('&'); more++) {
                if (!readUnit(tape, depth, false)) {
                    return false;
                }
                law.addSign('&');
            }
            return true;
        }

        private boolean readUnit(Tape tape, int depth, boolean sumStands) {
            int sign = tape.peek();
            if (!sumStands && (sign == '!' || sign == '(')) {
                if (depth >= MOST_DEPTH) {
                    return false;
                }
                tape.at++;
                if (sign == '(') {
                    return readCondition(tape, depth + 1, false) && tape.accept(')');
                }
                if (!readUnit(tape, depth + 1, false)) {
                    return false;
                }
                law.addSign('!');
                return true;
            }
            return (sumStands || readSum(tape, depth)) && readCompared(tape, depth);
        }

        private boolean readCompared(Tape tape, int depth) {
            int sign = tape.peek();
            if (!isCompare(sign)) {
                return false;
            }
            tape.at++;
            if (!readSum(tape, depth)) {
                return false;
            }
            law.addSign(sign);
            return true;
        }

        private static boolean isCompare(int sign) {
            return sign == '=' || sign == '<' || sign == '>';
        }

        private boolean readSum(Tape tape, int depth) {
            if (!readTerm(tape, depth)) {
                return false;
            }
            int sign = tape.peek();
            for (int more = 0; more < MOST_BYTES && (sign == '+' || sign == '-'); more++) {
                tape.at++;
                if (!readTerm(tape, depth)) {
                    return false;
                }
                law.addSign(sign);
                sign = tape.peek();
            }
            return true;
        }

        private boolean readTerm(Tape tape, int depth) {
            if (!readAtom(tape, depth)) {
                return false;
            }
            int sign = tape.peek();
            for (int more = 0; more < MOST_BYTES && (sign == '*' || sign == '/'); more++) {
                tape.at++;
                if (!readAtom(tape, depth)) {
                    return false;
                }
                law.addSign(sign);
                sign = tape.peek();
            }
            return true;
        }

        private boolean readAtom(Tape tape, int depth) {
            int sign = tape.peek();
            if (sign == '[') {
                if (depth >= MOST_DEPTH) {
                    return false;
                }
                tape.at++;
                return readSum(tape, depth + 1) && tape.accept(']');
            }
            if (Tape.isDigit(sign)) {
                int number = tape.readNumber(MOST_NUMBER_DIGITS);
                law.addNumber(number);
                return number != NONE;
            }
            int letter = letterOf(sign);
            if (letter == NONE) {
                return false;
            }
            tape.at++;
            law.addLetter(letter);
            return true;
        }

        /** The letter's place among those that LawBook sets. */
        private static int letterOf(int sign) {
            switch (sign) {
                case 'w':
                    return 0;
                case 'i':
                    return 1;
                case 'x':
                    return 2;
                case 'n':
                    return 3;
                case 'b':
                    return 4;
                case 't':
                    return 5;
                default:
                    return NONE;
            }
        }
    }

    /** The laws that were told, which of them holds, and what a deed costs by it. */
    private static final class LawBook {
        private final Law[] laws = new Law[MOST_TEXTS];
        private final int[] letters = new int[6];
        int told = 0;
        int holds = NONE;

        LawBook() {
            for (int i = 0; i < MOST_TEXTS; i++) {
                laws[i] = new Law();
            }
        }

        int keep(Law law) {
            if (told >= MOST_TEXTS) {
                return NONE;
            }
            laws[told].copyFrom(law);
            told++;
            return told - 1;
        }

        /** What such a deed costs behind n others of a row, the latest of them of the sort behind. */
        int priceOf(int sort, int part, int x, int n, int behind, int time) {
            if (holds < 0 || holds >= told) {
                return sort + 1;
            }
            letters[0] = sort;
            letters[1] = part;
            letters[2] = x;
            letters[3] = n;
            letters[4] = behind;
            letters[5] = time;
            return within(0, laws[holds].worth(letters), MOST_COST);
        }
    }

    /** What was seen of costs, and what it tells. */
    private static final class SeenList {
        private final int[] sorts = new int[MOST_SEEN];
        private final int[] bounds = new int[MOST_SEEN];
        private final boolean[] reached = new boolean[MOST_SEEN];
        private final int[] costs = new int[CHOICES_OF_X];
        int held = 0;

        void add(int sort, int bound, boolean more) {
            if (held < MOST_SEEN) {
                sorts[held] = sort;
                bounds[held] = bound;
                reached[held] = more;
                held++;
            }
        }

        /** Each x (bits) with which a deed of that sort would cost as was seen. */
        int fitting(LawBook book, int sort) {
            int found = 0;
            for (int x = 0; x < CHOICES_OF_X; x++) {
                costs[x] = book.priceOf(sort, 0, DeedList.tellsX(sort) ? x : 0, 0, NO_SORT, 0);
                found |= fits(sort, costs[x]) ? 1 << x : 0;
            }
            return found;
        }

        private boolean fits(int sort, int price) {
            for (int i = 0; i < held; i++) {
                if (sorts[i] == sort && (price >= bounds[i]) != reached[i]) {
                    return false;
                }
            }
            return true;
        }

        int bestQuestion(LawBook book, int sort) {
            int found = fitting(book, sort);
            int best = NONE;
            int leastApart = CHOICES_OF_X + 1;
            for (int v = 0; v <= MOST_COST && found != 0; v++) {
                int apart = Math.abs(moreThanLess(found, v));
                if (apart < leastApart) {
                    leastApart = apart;
                    best = v;
                }
            }
            return best;
        }

        /** By how many those that cost v or more are more than those that cost less. */
        private int moreThanLess(int found, int v) {
            int ahead = 0;
            for (int x = 0; x < CHOICES_OF_X; x++) {
                if ((found >> x & 1) != 0) {
                    ahead += costs[x] >= v ? 1 : -1;
                }
            }
            return ahead;
        }
    }

    /**
     * What needs what in a piece, and what follows from it. Sets of deeds are bits. A set is whole, if it has all that
     * its deeds need: the deeds with which a row begins are such a set, and so are those left by taking back.
     */
    private static final class Order {
        /** More than any row costs. */
        private static final int TOO_DEAR = 1000000;
        private DeedList deeds = new DeedList();
        private int size = 0;
        final int[] below = new int[MOST_DEEDS];
        final int[] above = new int[MOST_DEEDS];
        private final boolean[] whole = new boolean[SUBSETS];
        private final int[] worths = new int[SUBSETS];
        private final int[] leasts = new int[SUBSETS * BEHIND_SORTS];
        private final int[] prices = new int[MOST_DEEDS * MOST_DEEDS * BEHIND_SORTS];

        /** All other methods tell of the piece that was looked at. */
        void look(DeedList piece) {
            deeds = piece;
            size = Math.min(piece.size, MOST_DEEDS);
            for (int d = 0; d < size; d++) {
                below[d] = 0;
                above[d] = 0;
                for (int e = 0; e < d; e++) {
                    if (piece.leansOn(d, e)) {
                        below[d] |= 1 << e | below[e];
                    }
                }
                for (int e = 0; e < d; e++) {
                    above[e] |= (below[d] >> e & 1) << d;
                }
            }
        }

        private int everything() {
            return (1 << size) - 1;
        }

        int lasts() {
            int found = 0;
            for (int d = 0; d < size; d++) {
                found |= above[d] == 0 ? 1 << d : 0;
            }
            return found;
        }

        int firsts() {
            int found = 0;
            for (int d = 0; d < size; d++) {
                found |= below[d] == 0 ? 1 << d : 0;
            }
            return found;
        }

        int fixed() {
            int found = 0;
            for (int d = 0; d < size; d++) {
                found |= earliest(d) == latest(d) ? 1 << d : 0;
            }
            return found;
        }

        int earliest(int deed) {
            return Integer.bitCount(below[deed]);
        }

        int latest(int deed) {
            return size - 1 - Integer.bitCount(above[deed]);
        }

        /** What is left where all that can be taken back by those who know these sorts is taken back. */
        int leftBy(int known) {
            int left = everything();
            // What needs a deed stands behind it in the list, so one way from the end meets each in time.
            for (int d = size - 1; d >= 0; d--) {
                if ((known >> deeds.sorts[d] & 1) != 0 && canLeave(d, left)) {
                    left &= ~(1 << d);
                }
            }
            return left;
        }

        private boolean canFollow(int deed, int set) {
            return (set >> deed & 1) == 0 && (below[deed] & ~set) == 0;
        }

        private boolean canLeave(int deed, int set) {
            return (set >> deed & 1) != 0 && (above[deed] & set) == 0;
        }

        private void markWhole() {
            whole[0] = true;
            for (int d = 0; d < size; d++) {
                int bit = 1 << d;
                for (int set = 0; set < bit; set++) {
                    whole[bit | set] = whole[set] && (below[d] & ~set) == 0;
                }
            }
        }

        // -- rows --

        /** How many rows there are. */
        int countWays() {
            markWhole();
            worths[everything()] = 1;
            for (int set = everything() - 1; set >= 0; set--) {
                if (whole[set]) {
                    worths[set] = waysFrom(set);
                }
            }
            return worths[0];
        }

        private int waysFrom(int set) {
            int ways = 0;
            for (int d = 0; d < size; d++) {
                ways += canFollow(d, set) ? worths[set | 1 << d] : 0;
            }
            return ways;
        }

        /** The deed at a place of the i-th row, behind countWays. */
        int deedOfWay(int i, int at) {
            int passed = i;
            int set = 0;
            for (int place = 0; place <= at; place++) {
                for (int d = 0; d < size; d++) {
                    if (!canFollow(d, set)) {
                        continue;
                    }
                    int ways = worths[set | 1 << d];
                    if (passed < ways) {
                        if (place == at) {
                            return d;
                        }
                        set |= 1 << d;
                        break;
                    }
                    passed -= ways;
                }
            }
            return NONE;
        }

        // -- the row of least cost --

        /** The least cost of a row. */
        int findLeast(LawBook book, int time) {
            for (int d = 0; d < size; d++) {
                setPrices(book, d, time);
            }
            markWhole();
            for (int set = everything(); set >= 0; set--) {
                if (whole[set]) {
                    setLeasts(set);
                }
            }
            return leasts[NO_SORT];
        }

        /** What the deed costs at each place that it can have, behind each sort. */
        private void setPrices(LawBook book, int deed, int time) {
            for (int n = earliest(deed); n <= latest(deed); n++) {
                for (int behind = 0; behind < BEHIND_SORTS; behind++) {
                    // Only the first of a row has none ahead of it.
                    if ((n == 0) == (behind == NO_SORT)) {
                        prices[priceAt(deed, n, behind)] =
                                book.priceOf(deeds.sorts[deed], deeds.parts[deed], deeds.xs[deed], n, behind, time);
                    }
                }
            }
        }

        private static int priceAt(int deed, int n, int behind) {
            return (deed * MOST_DEEDS + n) * BEHIND_SORTS + behind;
        }

        /** For each sort that the latest deed of the set can have: what the rest of a row costs at least. */
        private void setLeasts(int set) {
            int n = Integer.bitCount(set);
            int behindSorts = sortsOfLatest(set);
            for (int behind = 0; behind < BEHIND_SORTS; behind++) {
                if ((behindSorts >> behind & 1) == 0) {
                    continue;
                }
                int least = n == size ? 0 : TOO_DEAR;
                for (int d = 0; d < size; d++) {
                    if (canFollow(d, set)) {
                        least = Math.min(least, costThrough(d, set, n, behind));
                    }
                }
                leasts[set * BEHIND_SORTS + behind] = least;
            }
        }

        private int sortsOfLatest(int set) {
            int found = set == 0 ? 1 << NO_SORT : 0;
            for (int d = 0; d < size; d++) {
                found |= canLeave(d, set) ? 1 << deeds.sorts[d] : 0;
            }
            return found;
        }

        /** What the rest of a row costs at least, if it goes on with this deed. */
        private int costThrough(int deed, int set, int n, int behind) {
            return prices[priceAt(deed, n, behind)] + leasts[(set | 1 << deed) * BEHIND_SORTS + deeds.sorts[deed]];
        }

        /** The deed at a place of the first row of least cost, behind findLeast. */
        int deedOfLeast(int at) {
            int set = 0;
            int behind = NO_SORT;
            for (int place = 0; place <= at; place++) {
                int least = leasts[set * BEHIND_SORTS + behind];
                for (int d = 0; d < size; d++) {
                    if (canFollow(d, set) && costThrough(d, set, place, behind) == least) {
                        if (place == at) {
                            return d;
                        }
                        set |= 1 << d;
                        behind = deeds.sorts[d];
                        break;
                    }
                }
            }
            return NONE;
        }

        // -- the game --

        /** What the first player has more than the second at last. */
        int playGame(LawBook book, int time) {
            for (int d = 0; d < size; d++) {
                prices[d] = book.priceOf(deeds.sorts[d], deeds.parts[d], deeds.xs[d], 0, NO_SORT, time);
            }
            markWhole();
            worths[0] = 0;
            for (int set = 1; set <= everything(); set++) {
                if (whole[set]) {
                    int move = bestMove(set);
                    worths[set] = move == NONE ? 0 : moveWorth(set, move);
                }
            }
            return worths[everything()];
        }

        /** The first player's first deed, behind playGame; NONE: there is none. */
        int firstMove() {
            return bestMove(everything());
        }

        private int bestMove(int set) {
            int best = NONE;
            for (int d = 0; d < size; d++) {
                if (canLeave(d, set) && (best == NONE || moveWorth(set, d) > moveWorth(set, best))) {
                    best = d;
                }
            }
            return best;
        }

        private int moveWorth(int set, int deed) {
            return prices[deed] - worths[set & ~(1 << deed)];
        }
    }
}
