/** The boundary cases of promises 1 to 5: a new object, the tape, faults, what texts become. */
public final class EdgeTextTest {
    private static final int HIDDEN = -1000000;

    public static void main(String[] args) {
        newObject();
        newObjectWithTexts();
        feedLeavesOutZeros();
        feedTakesTheHighestFirst();
        feedUpToTheBound();
        endWithin();
        endOutside();
        faultOfNoSuchSort();
        faultChangesNothing();
        workshopClauses();
        workshopNumbers();
        lawClauses();
        lawNumbersAndDepth();
        makingDeeds();
        blanks();
        longestTexts();
        textRefused();
        textsAreFour();
        textOfWorkshop();
        textWithout();
        anotherWorkshop();
        Due.close();
    }

    // ---- promise 1 ----

    /** "No WORKSHOP.": what each call of the face answers. */
    private static void newObject() {
        Edge.refused("P1 texts, none", Edge::nothing, -1, x -> x.text(0), x -> x.text(1), x -> x.text(2));
        Edge.refused("P1 no parts, deeds", Edge::nothing, -1, x -> x.shape(0, 0), x -> x.deed(0, 0), x -> x.upon(0));
        Edge.refused("P1 no acts", Edge::nothing, -1, x -> x.make(0, 0, 0), x -> x.undoes(0), x -> x.takes(0, 0),
                x -> x.enter(0), x -> x.forgets(0, 0), x -> x.sell(), x -> x.years(1, 1), x -> x.undo());
        Edge.refused("P1 no log, makings", Edge::nothing, -1, x -> x.log(0, 0), x -> x.step(0, 0, 0), x -> x.perform(0),
                x -> x.alike(0, 0));
        Edge.refused("P1 no rows", Edge::nothing, -1, x -> x.cost(0, 0, 5), x -> x.rows(), x -> x.row(0, 0),
                x -> x.drawn(1, 0), x -> x.cheapest(-1), x -> x.cheapest(0), x -> x.places(0, 0), x -> x.needs(0, 0),
                x -> x.sure(0, 0));
        Edge.refused("P1 no apprentices", Edge::nothing, -1, x -> x.alone(0), x -> x.stuck(0), x -> x.team(),
                x -> x.lesson(0), x -> x.odds(0, 0));
        Edge.refused("P1 nothing seen", Edge::nothing, -1, x -> x.seen(0, 0, true), x -> x.args(0), x -> x.ask(0));
        Edge.refused("P1 nothing kept", Edge::nothing, -1, x -> x.all(0), x -> x.all(6), x -> x.image(), x -> x.back());
        Edge.refused("P1 hidden", Edge::nothing, HIDDEN, x -> x.run(0, 0), x -> x.game(0), x -> x.game(1));
        Edge.refused("P1 throws", Edge::nothing, -2, x -> Due.apprentice(x, 0, 0), x -> Due.apprentice(x, 0, 1));
        Edge.answers("P1 counts", Edge::nothing, x -> {
            Due.due("P1 counts", Edge.counts(x), "[0, 0, 0, 0, 0, -1, 0, 0, 3, 0, 0, 0]");
            return 0;
        }, 0);
    }

    /** Texts of laws and makings, the law that holds and haste need no workshop. */
    private static void newObjectWithTexts() {
        Edge.Script script = Edge::textsAlone;
        Edge.answers("P1 counts", script, x -> {
            Due.due("P1 counts", Edge.counts(x), "[0, 0, 1, 1, 3, 0, 0, 0, 6, 0, 0, 0]");
            return 0;
        }, 0);
        Edge.answers("P20 without a workshop", script, x -> x.step(0, 2, 0), 1);
        Edge.refused("P22 no WORKSHOP", script, -1, x -> x.perform(0));
        Edge.refused("P23 no WORKSHOP", script, -1, x -> x.alike(0, 0));
        Edge.refused("P21 no WORKSHOP", script, HIDDEN, x -> x.run(0, 0), x -> x.run(0, 1));
        Edge.refused("P11 no WORKSHOP", script, -1, x -> x.make(0, 0, 0));
        Edge.refused("P17 no WORKSHOP", script, -1, x -> x.years(1, 1), x -> x.years(20, 1));
        Edge.refused("P25 no WORKSHOP", script, -1, x -> x.rows());
        Edge.refused("P28 no WORKSHOP", script, -1, x -> x.cheapest(-1));
        Edge.refused("P32 no WORKSHOP", script, -1, x -> x.alone(0), x -> x.alone(1));
        Edge.refused("P33 no WORKSHOP", script, -1, x -> x.stuck(0), x -> x.stuck(1));
        Edge.refused("P34 no WORKSHOP", script, -1, x -> x.team());
        Edge.refused("P36 no WORKSHOP", script, HIDDEN, x -> x.game(0), x -> x.game(1));
        Edge.refused("P38 no WORKSHOP", script, -1, x -> x.seen(0, 0, true));
        Edge.refused("P39 no WORKSHOP", script, -1, x -> x.args(0));
        Edge.refused("P40 no WORKSHOP", script, -1, x -> x.ask(0));
        for (int what = 0; what < 7; what++) {
            int w = what;
            Edge.refused("P42 no WORKSHOP", script, -1, x -> x.all(w));
        }
        Edge.refused("P43 no WORKSHOP", script, -1, x -> x.image());
        Edge.refused("P44 no WORKSHOP", script, -1, x -> x.back());
    }

    // ---- promise 2 ----

    private static int feed(UndoTrade x, int[] bytes) {
        int[] w = new int[5];
        for (int i = 0; i < 20; i++) {
            w[i / 4] |= bytes[i] << 24 - i % 4 * 8;
        }
        return x.feed(w[0], w[1], w[2], w[3], w[4]);
    }

    /** "bytes of 0 are left out", at each of the twenty places. */
    private static void feedLeavesOutZeros() {
        Edge.refused("P2 twenty bytes of 0", Edge::nothing, 0, x -> x.feed(0, 0, 0, 0, 0));
        Edge.refused("P2 twenty bytes of 0", Edge::busy, 4, x -> x.feed(0, 0, 0, 0, 0));
        for (int place = 0; place < 20; place++) {
            UndoTrade x = new UndoTrade();
            int[] bytes = new int[20];
            bytes[place] = 'a';
            Due.due("P2 one byte at " + place, feed(x, bytes), 1);
            Due.due("P2 it is that one", x.fault(0), -1);
            java.util.Arrays.fill(bytes, ' ');
            bytes[place] = 0;
            Due.due("P2 all but the byte at " + place, feed(x, bytes), 20);
        }
    }

    /** "of each number the highest first": a k 1 8 at any places makes ak18. */
    private static void feedTakesTheHighestFirst() {
        for (int first = 0; first < 17; first++) {
            for (int second = first + 1; second < 18; second++) {
                for (int third = second + 1; third < 19; third += 3) {
                    UndoTrade x = new UndoTrade();
                    int[] bytes = new int[20];
                    bytes[first] = 'a';
                    bytes[second] = 'k';
                    bytes[third] = '1';
                    bytes[19] = '8';
                    Due.due("P2 four bytes", feed(x, bytes), 4);
                    x.text(0);
                    Due.due("P2 in that order", Due.apprentice(x, 0, 0), 18);
                }
            }
        }
    }

    private static Edge.Script bytes(int n) {
        return x -> {
            for (int i = 0; i < n / 20; i++) {
                x.feed(0x20202020, 0x20202020, 0x20202020, 0x20202020, 0x20202020);
            }
            for (int i = 0; i < n % 20; i++) {
                x.feed(0, 0, 'a', 0, 0);
            }
        };
    }

    /** "NONE: more than 240." */
    private static void feedUpToTheBound() {
        Edge.answers("P2 220 and 20", bytes(220), x -> x.feed(-1, -1, -1, -1, -1), 240);
        Edge.refused("P2 221 and 20", bytes(221), -1, x -> x.feed(-1, -1, -1, -1, -1));
        Edge.answers("P2 239 and 1", bytes(239), x -> x.feed(0, 0, 0, 0, 7), 240);
        Edge.refused("P2 239 and 2", bytes(239), -1, x -> x.feed(7, 0, 0, 0, 7), x -> x.feed(0, 0, 0x7000700, 0, 0));
        Edge.refused("P2 240 and 1", bytes(240), -1, x -> x.feed(1, 0, 0, 0, 0), x -> x.feed(0, 0, 0, 0, 0x1000000),
                x -> x.feed(0, 0x10000, 0, 0, 0), x -> x.feed(0, 0, 0, 256, 0));
        Edge.refused("P2 240 and none", bytes(240), 240, x -> x.feed(0, 0, 0, 0, 0));
        Edge.answers("P2 bytes of 0 are not counted", bytes(230), x -> x.feed(-1, 0, -1, 0, 0x1010000), 240);
        Edge.refused("P2 the whole is refused", bytes(230), -1, x -> x.feed(-1, 0, -1, 0, 0x1010100));
        Edge.answers("P2 room again", bytes(240), x -> x.end(239) ? x.feed(9, 0, 0, 0, 0) : -9, 240);
    }

    // ---- promise 3 ----

    /** "The TAPE has its first n bytes alone." */
    private static void endWithin() {
        for (int n = 0; n <= 7; n++) {
            UndoTrade x = new UndoTrade();
            Due.tape(x, "ak1r0;a");
            Due.due("P3 end(" + n + ")", x.end(n), true);
            Due.due("P3 it has " + n, x.count(4), n);
            int[] faults = {0, -1, 2, -1, 4, -1, 6, -1};
            Due.due("P3 the first ones", x.fault(0), faults[n]);
            Due.due("P3 more comes behind them", x.feed('!', 0, 0, 0, 0), n + 1);
            Due.due("P3 more comes behind them", x.fault(0), n);
        }
        Edge.refused("P3 all of them", Edge::busy, 1, x -> x.end(4) ? 1 : 0);
        Edge.refused("P3 none of none", Edge::nothing, 1, x -> x.end(0) ? 1 : 0);
        Edge.answers("P3 all 240", bytes(240), x -> x.end(240) ? 1 : 0, 1);
    }

    /** "False: n." */
    private static void endOutside() {
        for (int n : Edge.outside(0, 4)) {
            Edge.refused("P3 end(" + n + ")", Edge::busy, 0, x -> x.end(n) ? 1 : 0);
        }
        Edge.refused("P3 what was taken off does not come again", Edge.then(Edge::busy, x -> x.end(2)), 0,
                x -> x.end(3) ? 1 : 0);
        Edge.refused("P3 beyond none", Edge::nothing, 0, x -> x.end(1) ? 1 : 0);
        Edge.refused("P3 beyond 240", bytes(240), 0, x -> x.end(241) ? 1 : 0);
    }

    // ---- promise 4 ----

    /** "-2: no such sort." */
    private static void faultOfNoSuchSort() {
        for (int sort : Edge.outside(0, 2)) {
            Edge.refused("P4 fault(" + sort + ")", Edge::busy, -2, x -> x.fault(sort));
            Edge.refused("P4 fault(" + sort + ") of an empty tape", Edge::nothing, -2, x -> x.fault(sort));
        }
    }

    private static void faultChangesNothing() {
        Edge.refused("P4 a fault", Edge::busy, 4, x -> x.fault(0));
        Edge.refused("P4 a fault", Edge::busy, 0, x -> x.fault(1), x -> x.fault(2));
        Edge.refused("P4 none: a workshop", Edge.then(Edge::busy, x -> Due.tape(x, "sm3;a")), -1, x -> x.fault(0));
        Edge.refused("P4 none: a law", Edge.then(Edge::busy, x -> Due.tape(x, "y:7")), -1, x -> x.fault(1));
        Edge.refused("P4 none: a making", Edge.then(Edge::busy, x -> Due.tape(x, "p55")), -1, x -> x.fault(2));
    }

    /** The text's fault; where it has one, that text() refuses it, else that text() takes it. */
    private static void faults(String sentence, int sort, Object... cases) {
        for (int i = 0; i < cases.length; i += 2) {
            String text = (String) cases[i];
            UndoTrade x = new UndoTrade();
            int length = Due.tape(x, text);
            String name = sentence + ", '" + text + "' ";
            int want = (Integer) cases[i + 1];
            Due.due(name + "fault", x.fault(sort), want);
            int told = x.text(sort);
            Due.due(name + "taken", told != -1, want == -1);
            Due.due(name + "leaves bytes", x.count(4), want == -1 ? 0 : length);
        }
    }

    private static void workshopClauses() {
        faults("P4 CLAUSES with ; between", 0, "a;a", -1, ";a", 0, "a;", 2, "a;;a", 2, "aa", 1, "a a", 2, "a:a", 1, ";", 0);
        faults("P4 s, one at most", 0, "s;a", -1, "a;s", -1, "s;s;a", 2, "s;a;s", 4, "a;sm3;sm3", 6, "s;s", 2);
        faults("P4 without an APPRENTICE: the length", 0, "", 0, "s", 1, "sm12", 4, "s;", 2, "sm3;", 4, "  ", 2, "s  ", 3);
        faults("P4 one to four a", 0, "a", -1, "a;a;a;a", -1, "a;a;a;a;a", 8, "a;s;a;a;a", -1, "s;a;a;a;a", -1,
                "a;a;a;a;s", -1, "a;a;a;a;ak1", 8, "s;a;a;a;a;a", 10, "a;a;a;a;", 8, "a;a;a;a;x", 8);
        faults("P4 ITEMS, none or more", 0, "a", -1, "ak1", -1, "ar1", -1, "ak1r0", -1, "ar0k1", -1, "s;a", -1, "sm1;a", -1);
        faults("P4 a letter that was there", 0, "ak1k1", 3, "ar1r1", 3, "ak1r1k1", 5, "ar1k1r1", 5, "ak1r0r0", 5,
                "sm1m1;a", 3, "ak1;ak1;ar0;ar0", -1);
        faults("P4 a letter of another CLAUSE", 0, "sk1;a", 1, "sr1;a", 1, "am1", 1, "ax1", 1, "p00", 0, "y:1", 0, "k1", 0,
                "S;a", 0, "aK1", 1);
        faults("P4 a letter without its number", 0, "ak", 2, "ar", 2, "akr1", 2, "ak;a", 2, "sm;a", 2, "a;sm", 4, "ak1r", 4,
                "a;ak", 4, "a;ar", 4, "a;ak1r", 6);
    }

    private static void workshopNumbers() {
        faults("P4 m 1 .. 12", 0, "sm0;a", 2, "sm1;a", -1, "sm12;a", -1, "sm13;a", 3, "sm00;a", 3, "sm01;a", -1,
                "sm09;a", -1, "sm99;a", 3, "a;sm0", 4, "a;sm13", 5, "sm0", 2);
        faults("P4 k 0 .. 31", 0, "ak0", -1, "ak00", -1, "ak9", -1, "ak31", -1, "ak32", 3, "ak40", 3, "ak99", 3,
                "ak32r1", 3, "ar1k32", 5);
        faults("P4 r 0, 1", 0, "ar0", -1, "ar1", -1, "ar2", 2, "ar9", 2, "ar00", -1, "ar01", -1, "ar02", 3, "ar10", 3,
                "ar11", 3, "ar2k1", 2);
        faults("P4 a third digit, whatever stands ahead of it", 0, "ak000", 4, "ak001", 4, "ak310", 4, "ak320", 4,
                "ak990", 4, "ar000", 4, "ar001", 4, "ar200", 4, "sm001;a", 4, "sm120;a", 4, "sm130;a", 4, "sm999;a", 4,
                "ak0000", 4);
    }

    private static void lawClauses() {
        faults("P4 CLAUSES with ; between, one at least", 1, "", 0, " ", 1, ";", 0, "y:1", -1, "y:1;y:2", -1, "y:1;", 4,
                "y:1;;y:2", 4, "y:1y:2", 3, "y:1;2", 4);
        faults("P4 y, :", 1, "y", 1, "y:", 2, "y1", 1, ":1", 0, "1", 0, "Y:1", 0, "y;1", 1, "y::1", 2, "a", 0, "p00", 0);
        faults("P4 perhaps CONDITION ?", 1, "y:w=1?2", -1, "y:w=1", 5, "y:w=1?", 6, "y:w?1", 3, "y:?1", 2, "y:w=1?2?3", 7,
                "y:w=1;y:1", 5, "y:w=?1", 4, "y:=1?1", 2);
        faults("P4 TRUTHS with |, UNITS with &", 1, "y:w=1|w=2?1", -1, "y:w=1&w=2?1", -1, "y:w=1|?1", 6, "y:w=1&?1", 6,
                "y:|w=1?1", 2, "y:&w=1?1", 2, "y:w=1||w=2?1", 6, "y:w=1&&w=2?1", 6, "y:w|i=1?1", 3, "y:w=1|i?1", 7,
                "y:w=1&i;", 7);
        faults("P4 one of = < >, SUM", 1, "y:w<1?1", -1, "y:w>1?1", -1, "y:w<=1?1", 4, "y:w==1?1", 4, "y:w<1<2?1", 5,
                "y:w!1?1", 3);
        faults("P4 ! UNIT, ( CONDITION )", 1, "y:!w=1?1", -1, "y:(w=1)?1", -1, "y:!(w=1)?1", -1, "y:!!w=1?1", -1,
                "y:!", 3, "y:(", 3, "y:()?1", 3, "y:!?1", 3, "y:(w=1?1", 6, "y:(w=1", 6, "y:w=1)?1", 5,
                "y:(w=1|(w=2&!w=3))?1", -1);
        faults("P4 a CLAUSE that goes on with ! or ( has a CONDITION", 1, "y:(1)", 4, "y:(w=1)", 7, "y:!1", 4, "y:!w=1", 6,
                "y:(1+2)=3?1", 6, "y:(w=1)+1?1", 7, "y:1+(2)", 4, "y:1+!w=1?1", 4, "y:w=1?(w=1)", 6, "y:w=1?!w=1", 6);
        faults("P4 TERMS with + -, ATOMS with * /", 1, "y:1+2-3", -1, "y:1*2/3", -1, "y:1+", 4, "y:1-", 4, "y:1*", 4,
                "y:1/", 4, "y:+1", 2, "y:-1", 2, "y:*1", 2, "y:/1", 2, "y:1+-1", 4, "y:1**1", 4, "y:1 1", 4, "y:1w", 3,
                "y:w1", 3, "y:ww", 3);
        faults("P4 a letter (w i x n b t)", 1, "y:w", -1, "y:i", -1, "y:x", -1, "y:n", -1, "y:b", -1, "y:t", -1, "y:y", 2,
                "y:a", 2, "y:u", 2, "y:W", 2);
        faults("P4 [ SUM ]", 1, "y:[1]", -1, "y:[1+w]*2", -1, "y:[1]=[1]?[1]", -1, "y:[", 3, "y:[]", 3, "y:[1", 4, "y:1]", 3,
                "y:[1)", 4, "y:[w=1]?1", 4, "y:[1]]", 5, "y:(w=1]?1", 6);
    }

    private static void lawNumbersAndDepth() {
        faults("P4 1 to 4 digits, a fifth one itself", 1, "y:0", -1, "y:9999", -1, "y:0000", -1, "y:10000", 6, "y:00000", 6,
                "y:99999", 6, "y:00001", 6, "y:123456", 6, "y:w=12345?1", 8, "y:1+12345", 8, "y:[12345]", 7,
                "y:w=1?12345", 10);
        faults("P4 at most six of ( within one another", 1, "y:((((((w=1))))))?1", -1, "y:(((((((w=1)))))))?1", 8,
                "y:(((((((", 8, "y:((((((", 8);
        faults("P4 at most six of [ within one another", 1, "y:[[[[[[1]]]]]]", -1, "y:[[[[[[[1]]]]]]]", 8, "y:[[[[[[[", 8);
        faults("P4 at most six of ! within one another", 1, "y:!!!!!!w=1?1", -1, "y:!!!!!!!w=1?1", 8, "y:!!!!!!!", 8);
        faults("P4 a seventh of all three", 1, "y:(!(!([1]=1)))?1", -1, "y:(!(!([[1]]=1)))?1", 8, "y:(!(!(!w=1)))?1", -1,
                "y:(!(!(!w=[1])))?1", 10, "y:(!(!(!!w=1)))?1", 8, "y:(!(!(!(w=1))))?1", 8);
        faults("P4 within one another: not beside", 1, "y:[[[[[[1]]]]]]+[[[[[[1]]]]]]", -1,
                "y:((((((w=1))))))&((((((w=1))))))?[[[[[[1]]]]]]", -1, "y:!w=1|!w=1|!w=1|!w=1|!w=1|!w=1|!w=1|!w=1?1", -1,
                "y:!!!!!!w=1&!!!!!!w=2?1;y:!!!!!!w=3?1", -1, "y:[1]+[1]+[1]+[1]+[1]+[1]+[1]+[1]", -1);
    }

    private static void makingDeeds() {
        String sixteen = "t0;t1;t2;t3;t4;t5;t6;t7;t8;t9;t0;t1;t2;t3;t4;t5";
        faults("P4 DEEDS with ; between, 1 to 16", 2, "", 0, " ", 1, "t0", -1, sixteen, -1, sixteen + "  ", -1, ";t0", 0,
                "t0;", 3, "t0;;t1", 3, "t0t1", 2);
        faults("P4 the ; ahead of a 17th DEED", 2, sixteen + ";t0", 47, sixteen + ";", 47, sixteen + "  ;t0", 49,
                sixteen + ";x", 47, sixteen + "x", 47, sixteen + "0", 47);
        faults("P4 a digit each", 2, "p", 1, "p0", 2, "p00", -1, "p000", 3, "t", 1, "t0", -1, "t00", 2, "c", 1, "c0", 2,
                "c00", -1, "c000", 3, "j", 1, "j0", 2, "j00", -1, "j000", 3, "h", 1, "h0", -1, "h00", 2, "p;", 1, "p0;", 2,
                "px", 1, "p0x", 2, "t-1", 1);
        faults("P4 other letters", 2, "x00", 0, "P00", 0, "s", 0, "a", 0, "y:1", 0, "00", 0, "t0;a", 3);
        faults("P4 what is not there, or out of bounds, is no FAULT", 2, "p99", -1, "t9", -1, "c00", -1, "c99", -1, "j00", -1,
                "j99", -1, "h9", -1, "t0;t0;t0;t0;t0", -1, "p00;p00", -1);
    }

    /** "Blanks (32) may stand between all signs of these, not within numbers (between digits of a DEED they may)." */
    private static void blanks() {
        faults("P4 blanks in a WORKSHOP", 0, " a", -1, "a ", -1, " s m 3 ; a k 12 r 0 ", -1, "   a  ;  a   ", -1);
        faults("P4 not within numbers", 0, "ak1 2", 4, "sm1 2;a", 4, "ak1 ", -1, "ak 1", -1, "ar0 0", 4, "sm1 3;a", 4);
        faults("P4 blanks in a LAW", 1, " y : w = 1 & ! ( x < 2 | i > [ 3 + n ] ) ? b * 4 / t - 5 ; y : 6 ", -1);
        faults("P4 not within numbers", 1, "y:1 2", 4, "y:12 34", 5, "y:w=1 2?1", 6, "y:12345 ", 6, "y:1234 5", 7);
        faults("P4 blanks in a MAKING", 2, " p 0 1 ; t 2 ; c 3 4 ; j 5 6 ; h 7 ", -1, "p0 0", -1, "p 00", -1, "p0 0 0", 5);
        faults("P4 blanks up to a fault, the length", 0, "s  ;  ", 6, "ak  ", 4, "a  x", 3, "  ", 2, "  x", 2);
        faults("P4 other signs are no blanks", 0, "\ta", 0, "a\n", 1, "a" + (char) 160, 1, (char) 1 + "a", 0);
        faults("P4 other signs are no blanks", 1, "y:\t1", 2, "y:1\n", 3, "y:1" + (char) 255, 3);
        faults("P4 other signs are no blanks", 2, "t\t0", 1, "t0\r", 2, "p0" + (char) 128 + "0", 2);
    }

    /** Texts as long as the tape can have. */
    private static void longestTexts() {
        StringBuilder law = new StringBuilder("y:1");
        while (law.length() < 239) {
            law.append("+1");
        }
        faults("P4 a LAW of 240 bytes", 1, law + " ", -1, law + "x", 239, law.substring(0, 238) + "  ", 240);
        StringBuilder clauses = new StringBuilder("y:1");
        while (clauses.length() < 239) {
            clauses.append(";y:1");
        }
        faults("P4 sixty CLAUSES", 1, clauses.toString() + " ", -1, clauses + ";", 240);
        StringBuilder blanks = new StringBuilder();
        while (blanks.length() < 239) {
            blanks.append(' ');
        }
        faults("P4 a WORKSHOP of 240 bytes", 0, blanks + "a", -1, "a" + blanks, -1, "s" + blanks, 240, blanks + "x", 239);
        faults("P4 a MAKING of 240 bytes", 2, "p" + blanks, 240, "t0" + blanks.substring(1), -1,
                "p" + blanks.substring(2) + "00", -1);
    }

    // ---- promise 5 ----

    /** "NONE: a FAULT, no such sort" */
    private static void textRefused() {
        Edge.refused("P5 a FAULT", Edge::busy, -1, x -> x.text(0), x -> x.text(1), x -> x.text(2));
        Edge.refused("P5 a FAULT of an empty tape", Edge.then(Edge::busy, x -> x.end(0)), -1, x -> x.text(0), x -> x.text(1),
                x -> x.text(2));
        for (String text : new String[] {"a", "y:1", "p00"}) {
            Edge.Script script = Edge.then(Edge::busy, x -> Due.tape(x, text));
            for (int sort : Edge.outside(0, 2)) {
                Edge.refused("P5 no such sort " + sort, script, -1, x -> x.text(sort));
            }
        }
        Edge.refused("P5 a WORKSHOP is no LAW, no MAKING", Edge.then(Edge::busy, x -> Due.tape(x, "a")), -1,
                x -> x.text(1), x -> x.text(2));
        Edge.refused("P5 a LAW is no WORKSHOP, no MAKING", Edge.then(Edge::busy, x -> Due.tape(x, "y:1")), -1,
                x -> x.text(0), x -> x.text(2));
        Edge.refused("P5 a MAKING is no WORKSHOP, no LAW", Edge.then(Edge::busy, x -> Due.tape(x, "t0")), -1,
                x -> x.text(0), x -> x.text(1));
        Edge.refused("P5 a WORKSHOP with a FAULT at its end", Edge.then(Edge::busy, x -> Due.tape(x, "sm3;ak1;ak32")), -1,
                x -> x.text(0));
        Edge.refused("P5 a LAW with a FAULT at its end", Edge.then(Edge::busy, x -> Due.tape(x, "y:1;y:w=2?")), -1,
                x -> x.text(1));
        Edge.refused("P5 a MAKING with a FAULT at its end", Edge.then(Edge::busy, x -> Due.tape(x, "p00;t0;j1")), -1,
                x -> x.text(2));
    }

    private static void four(UndoTrade x, int sort, String text) {
        Edge.busy(x);
        Due.tell(x, sort, text);
        Due.tell(x, sort, text);
        Due.tape(x, text);
    }

    /** "a LAW, a MAKING: its number. NONE: .. there are four." */
    private static void textsAreFour() {
        UndoTrade x = new UndoTrade();
        for (int i = 0; i < 4; i++) {
            Due.due("P5 the number of a LAW", Due.tell(x, 1, "y:" + i), i);
            Due.due("P5 the TAPE, empty then", x.count(4), 0);
            Due.due("P5 the number of a MAKING", Due.tell(x, 2, "p0" + i), i);
            Due.due("P5 the TAPE, empty then", x.count(4), 0);
        }
        Due.due("P5 laws", x.count(2), 4);
        Due.due("P5 makings", x.count(3), 4);
        for (int i = 0; i < 4; i++) {
            Due.due("P5 each MAKING is itself", x.step(i, 0, 2), i);
        }
        Edge.refused("P5 there are four LAWS", y -> four(y, 1, "y:1"), -1, y -> y.text(1));
        Edge.refused("P5 there are four MAKINGS", y -> four(y, 2, "p00"), -1, y -> y.text(2));
        Edge.answers("P5 four LAWS, a MAKING", y -> four(y, 1, "y:1"), y -> Due.tell(y, 2, "p00"), 2);
        Edge.answers("P5 four MAKINGS, a LAW", y -> four(y, 2, "p00"), y -> Due.tell(y, 1, "y:1"), 2);
        Edge.answers("P5 WORKSHOPS as many as come", y -> {
            for (int i = 0; i < 9; i++) {
                Due.tell(y, 0, "a;a");
            }
        }, y -> Due.tell(y, 0, "a;a;a"), 3);
    }

    /** "the WORKSHOP (TIME 0, no DEEDS ..): how many APPRENTICES" */
    private static void textOfWorkshop() {
        String text = "a";
        for (int n = 1; n <= 4; n++) {
            UndoTrade x = new UndoTrade();
            Due.due("P5 how many APPRENTICES", Due.tell(x, 0, text), n);
            Due.due("P5 the TAPE, empty then", x.count(4), 0);
            Due.due("P5 counts", Edge.counts(x), "[" + n + ", 0, 0, 0, 0, -1, 0, 12, 3, 0, 0, 0]");
            text += n == 2 ? ";s;a" : ";a";
        }
        Due.due("P5 s is no APPRENTICE", Due.tell(new UndoTrade(), 0, "a;sm3;a"), 2);
    }

    /** "12 without", "bits 0 .. 31; 0", "0, 1; 1". */
    private static void textWithout() {
        UndoTrade x = Due.shop("a;s;ak31;ar0;ar1k00");
        Due.due("P5 m without", x.count(7), 12);
        int[] knows = {0, 31, 0, 0};
        int[] room = {1, 1, 0, 1};
        for (int a = 0; a < 4; a++) {
            Due.due("P5 k of " + a, Due.apprentice(x, a, 0), knows[a]);
            Due.due("P5 r of " + a, Due.apprentice(x, a, 1), room[a]);
        }
        Due.due("P5 m the least", Due.shop("sm1;a").count(7), 1);
        Due.due("P5 m the most", Due.shop("a;sm12").count(7), 12);
        Due.due("P5 m with a 0 ahead", Due.shop("a;sm07").count(7), 7);
        UndoTrade y = Due.shop("sm3;ak31r0;ak31r0");
        Due.tell(y, 0, "a;a");
        Due.due("P5 m without, behind another one", y.count(7), 12);
        Due.due("P5 k without, behind another one", Due.apprentice(y, 1, 0), 0);
        Due.due("P5 r without, behind another one", Due.apprentice(y, 1, 1), 1);
    }

    /** "all that was of another one, SEEN, too, is gone but LAWS, which holds, MAKINGS, HASTE" */
    private static void anotherWorkshop() {
        Edge.Script script = Edge.then(Edge::busy, x -> Due.tell(x, 0, "ak4"));
        Edge.answers("P5 counts", script, x -> {
            Due.due("P5 counts", Edge.counts(x), "[1, 0, 2, 2, 0, 1, 0, 12, 5, 0, 0, 0]");
            return 0;
        }, 0);
        Edge.answers("P5 DEEDS are gone", script, x -> x.deed(0, 0), -1);
        Edge.answers("P5 PARTS are gone", script, x -> x.shape(0, 0), -1);
        Edge.answers("P5 the LOG is gone", script, x -> x.log(0, 0), -1);
        Edge.answers("P5 no ACT can be UNDONE", script, x -> x.undo(), -1);
        Edge.answers("P5 the IMAGE is gone", script, x -> x.back(), -1);
        Edge.answers("P5 SEEN is gone", script, x -> x.args(0), 1023);
        Edge.answers("P5 APPRENTICES are gone", script, x -> Due.apprentice(x, 1, 0), -2);
        Edge.answers("P5 an APPRENTICE of his own", script, x -> Due.apprentice(x, 0, 0), 4);
        Edge.answers("P5 LAWS, which holds, stay", script, x -> x.make(0, 3, 7) * 100 + x.cost(0, 2, 5), 109);
        Edge.answers("P5 LAWS stay", script, x -> x.law(0) ? x.make(0, 3, 7) * 100 + x.cost(0, 2, 5) : -9, 121);
        Edge.answers("P5 MAKINGS stay", script, x -> x.perform(0), 7);
        Edge.answers("P5 MAKINGS stay", script, x -> x.step(1, 2, 2), 5);
        Edge.answers("P5 the same WORKSHOP once more is another one", Edge.then(Edge.made("a", "p00"), x -> x.image()),
                x -> Due.tell(x, 0, "a") * 10 + x.count(1) + x.count(6) + x.count(11) + x.back(), 9);
    }
}
