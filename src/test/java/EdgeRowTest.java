/** The boundary cases of promises 20, 21, 23 to 31 and 36: makings told and run, costs, rows, the game. */
public final class EdgeRowTest {
    private static final int HIDDEN = -1000000;
    private static final String TWELVE = "p00;p10;p20;p30;p40;p50;t0;t1;t2;t3;t4;t5";

    public static void main(String[] args) {
        stepNoSuch();
        stepAtEdges();
        runNoSuch();
        runBehind();
        alikeNoSuch();
        alikeAtEdges();
        costNoSuch();
        costWithin();
        costNumbers();
        costLetters();
        costNone();
        rowsAtEdges();
        rowNoSuch();
        rowAtEdges();
        drawnNoSuch();
        drawnSeeds();
        cheapestNoSuch();
        cheapestAtEdges();
        placesNoSuch();
        placesAtEdges();
        needsNoSuch();
        needsAtEdges();
        sureNoSuch();
        sureAtEdges();
        gameNoSuch();
        gameAtEdges();
        askingChangesNothing();
        Due.close();
    }

    // ---- promise 20 ----

    /** "NONE: no such ones." */
    private static void stepNoSuch() {
        for (int making : Edge.outside(0, 1)) {
            Edge.refused("P20 step(" + making + ", 0, 0)", Edge::busy, -1, x -> x.step(making, 0, 0));
        }
        for (int i : Edge.outside(0, 6)) {
            Edge.refused("P20 step(0, " + i + ", 0)", Edge::busy, -1, x -> x.step(0, i, 0));
        }
        for (int i : Edge.outside(0, 2)) {
            Edge.answers("P20 step(1, " + i + ", 2)", Edge::busy, x -> x.step(1, i, 2), -1);
        }
        for (int what : Edge.outside(0, 2)) {
            Edge.refused("P20 step(0, 0, " + what + ")", Edge::busy, -1, x -> x.step(0, 0, what));
        }
        Edge.refused("P20 there is none", Edge.shop("a"), -1, x -> x.step(0, 0, 0));
        Edge.refused("P20 a new object", Edge::nothing, -1, x -> x.step(0, 0, 0));
    }

    private static void stepAtEdges() {
        Edge.Script script = x -> {
            Due.tell(x, 2, "t0;t0;t0;t0;t0;t0;t0;t0;t0;t0;t0;t0;t0;t0;t0;j98");
            Due.tell(x, 2, "p99;t9;c99;j99;h9");
            Due.tell(x, 2, "p00;t0;c00;j00;h0");
            Due.tell(x, 2, "h5");
        };
        Edge.answers("P20 the sixteenth", script, x -> x.step(0, 15, 0) * 100 + x.step(0, 15, 1) * 10 + x.step(0, 15, 2), 398);
        Edge.answers("P20 a seventeenth", script, x -> x.step(0, 16, 0), -1);
        Edge.answers("P20 the fourth MAKING", script, x -> x.step(3, 0, 0) * 100 + x.step(3, 0, 1) * 10 + x.step(3, 0, 2), 450);
        for (int i = 0; i < 5; i++) {
            int at = i;
            int most = i == 1 || i == 4 ? 90 : 99;
            Edge.answers("P20 the most", script, x -> x.step(1, at, 0) * 100 + x.step(1, at, 1) * 10 + x.step(1, at, 2),
                    i * 100 + most);
            Edge.answers("P20 the least", script, x -> x.step(2, at, 0) * 100 + x.step(2, at, 1) * 10 + x.step(2, at, 2), i * 100);
        }
    }

    // ---- promise 21 ----

    /** "HIDDEN: no such ones, no WORKSHOP." */
    private static void runNoSuch() {
        for (int making : Edge.outside(0, 1)) {
            Edge.refused("P21 run(" + making + ", 0)", Edge::busy, HIDDEN, x -> x.run(making, 0));
            Edge.answers("P21 run(" + making + ", 1)", Edge::busy, x -> x.run(making, 1), HIDDEN);
        }
        for (int what : Edge.outside(0, 1)) {
            Edge.refused("P21 run(0, " + what + ")", Edge::busy, HIDDEN, x -> x.run(0, what));
        }
        Edge.refused("P21 there is none", Edge.shop("a"), HIDDEN, x -> x.run(0, 0), x -> x.run(0, 1));
        Edge.refused("P21 no WORKSHOP", Edge::textsAlone, HIDDEN, x -> x.run(0, 0), x -> x.run(0, 1));
    }

    private static Edge.Script told(String workshop, String piece, String making) {
        return x -> {
            Due.tell(x, 0, workshop);
            x.perform(Due.tell(x, 2, piece));
            Due.tell(x, 2, making);
        };
    }

    private static void runs(String sentence, String workshop, String piece, String making, int behind, int then) {
        Edge.refused(sentence, told(workshop, piece, making), behind, x -> x.run(1, 0));
        Edge.refused(sentence + ": DEEDS then", told(workshop, piece, making), then, x -> x.run(1, 1));
    }

    /** "behind how many (0; NONE: all can be)", "from the PIECE as it is" */
    private static void runBehind() {
        runs("P21 the first can't be", "a", "p00", "p00;p10", 0, 1);
        runs("P21 the second can't be", "a", "p00", "t0;p00", 1, 2);
        runs("P21 the last can't be", "a", "p00", "t0;t0;t0;t0", 3, 4);
        runs("P21 all can be", "a", "p00", "t0;t0;t0", -1, 4);
        runs("P21 one, it can be", "a", "p00", "t0", -1, 2);
        runs("P21 those behind it do not matter", "a", "p00", "c00;t0;t0", 0, 1);
        runs("P21 up to how many may be", "sm3;a", "p00", "t0;t0;t0", 2, 3);
        runs("P21 all that may be", "sm4;a", "p00", "t0;t0;t0", -1, 4);
        runs("P21 no room", "sm1;a", "p00", "t0", 0, 1);
        runs("P21 from nothing", "a", "t0", "p00", -1, 1);
        runs("P21 a PART that there can't be", "a", "t0", "p00;p60", 1, 1);
        runs("P21 a COLOUR that there can't be", "a", "p00", "c01;c00", 1, 2);
        runs("P21 onto itself", "a", "p00", "j00", 0, 1);
        runs("P21 onto what is not there", "a", "p00", "j09", 0, 1);
        runs("P21 twelve of sixteen", "a", "t0", "p00;p10;p20;p30;p40;p50;t0;t1;t2;t3;t4;t5;t0;t1;t2;t3", 12, 12);
        runs("P21 fifteen of sixteen can't be with twelve", "a", "p00;p10", "t0;t0;t0;t1;t1;t1;c01;c01;c01;c11;c11;c11", 10, 12);
    }

    // ---- promise 23 ----

    /** "NONE: no such MAKINGS, no WORKSHOP." */
    private static void alikeNoSuch() {
        for (int making : Edge.outside(0, 1)) {
            Edge.refused("P23 alike(" + making + ", 0)", Edge::busy, -1, x -> x.alike(making, 0));
            Edge.refused("P23 alike(0, " + making + ")", Edge::busy, -1, x -> x.alike(0, making));
            Edge.answers("P23 alike(" + making + ", itself)", Edge::busy, x -> x.alike(making, making), -1);
        }
        Edge.refused("P23 there is none", Edge.shop("a"), -1, x -> x.alike(0, 0));
        Edge.refused("P23 no WORKSHOP", Edge::textsAlone, -1, x -> x.alike(0, 0));
    }

    private static void alike(String sentence, String one, String other, int due) {
        Edge.refused(sentence, told("a", one, other), due, x -> x.alike(0, 1), x -> x.alike(1, 0));
        Edge.answers(sentence + ": itself", told("a", one, other), x -> x.alike(0, 0) * 10 + x.alike(1, 1), 11);
    }

    /** "the same PARTS, KINDS, TURNS, COATS one over the other, JOINS, what is HIDDEN", "(up to the first that can't be)" */
    private static void alikeAtEdges() {
        alike("P23 nothing and nothing", "t0", "h9", 1);
        alike("P23 nothing and one", "t0", "p00", 0);
        alike("P23 other PARTS", "p00", "p10", 0);
        alike("P23 a PART more", "p00", "p00;p50", 0);
        alike("P23 other KINDS", "p00", "p01", 0);
        alike("P23 KIND 0 and no such PART", "p00;p10", "p00", 0);
        alike("P23 TURNS", "p00;t0;t0", "p00;t0;t0;t0", 0);
        alike("P23 TURNS of another PART", "p00;p10;t0", "p00;p10;t1", 0);
        alike("P23 COATS one over the other", "p00;c01;c02", "p00;c02;c01", 0);
        alike("P23 the last COAT is the same", "p00;c01;c03", "p00;c02;c03", 0);
        alike("P23 the last two COATS are the same", "p00;c01;c02;c03", "p00;c02;c03", 0);
        alike("P23 more of the same COATS", "p00;c09;c09", "p00;c09;c09;c09", 0);
        alike("P23 COATS of two PARTS in another order", "p00;p10;c01;c12", "p00;p10;c12;c01", 1);
        alike("P23 COATS of the other PART", "p00;p10;c01;c12", "p00;p10;c02;c11", 0);
        alike("P23 JOINS onto others", "p00;p10;p20;j01", "p00;p10;p20;j02", 0);
        alike("P23 JOINS the other way", "p00;p10;j01", "p00;p10;j10", 0);
        alike("P23 a JOIN onto the PART 0 and none", "p00;p10;j10", "p00;p10", 0);
        alike("P23 what is HIDDEN", "p00;p10;j01;h0", "p00;p10;j01", 0);
        alike("P23 which is HIDDEN", "p00;p10;p20;j01;j21;h0", "p00;p10;p20;j01;j21;h2", 0);
        alike("P23 another order", "p00;p10;t0;c11;j01;c02;h0", "p10;c11;p00;c02;t0;j01;h0", 1);
        alike("P23 up to the first that can't be", "p00;p00;t0", "p00", 1);
        alike("P23 up to the first that can't be, both", "p00;c00;t0", "p00;t9;c01", 1);
        Edge.answers("P23 each from nothing", told("a", "p00;t0", "p00;t0"), x -> x.count(1) * 10 + x.alike(0, 1), 21);
        Edge.answers("P23 up to how many may be", told("sm2;a", "p00;t0;t0", "p00;t0;c01"), x -> x.alike(0, 1), 1);
        Edge.answers("P23 not so with one more", told("sm3;a", "p00;t0;t0", "p00;t0;c01"), x -> x.alike(0, 1), 0);
    }

    // ---- promise 24 ----

    /** "NONE: no such ones, out of bounds (n 0 .. 11, SORT 0 .. 5)." */
    private static void costNoSuch() {
        for (int deed : Edge.outside(0, 7)) {
            Edge.refused("P24 cost(" + deed + ", 0, 5)", Edge::busy, -1, x -> x.cost(deed, 0, 5));
        }
        for (int n : Edge.outside(0, 11)) {
            Edge.refused("P24 cost(0, " + n + ", 5)", Edge::busy, -1, x -> x.cost(0, n, 5));
        }
        for (int behind : Edge.outside(0, 5)) {
            Edge.refused("P24 cost(0, 0, " + behind + ")", Edge::busy, -1, x -> x.cost(0, 0, behind));
        }
        Edge.refused("P24 no DEEDS", Edge.shop("a"), -1, x -> x.cost(0, 0, 5));
        Edge.refused("P24 no WORKSHOP", Edge::nothing, -1, x -> x.cost(0, 0, 5));
    }

    private static void costs(String sentence, String law, int due) {
        Edge.answers(sentence + " " + law, x -> {
            Due.tell(x, 0, "a");
            x.make(0, 0, 0);
            Due.tell(x, 1, law);
        }, x -> x.law(0) ? x.cost(0, 0, 5) : -9, due);
    }

    /** "held within 0 .. 99" */
    private static void costWithin() {
        costs("P24 held within 0 .. 99", "y:0", 0);
        costs("P24 held within 0 .. 99", "y:0-1", 0);
        costs("P24 held within 0 .. 99", "y:0-9999", 0);
        costs("P24 held within 0 .. 99", "y:1", 1);
        costs("P24 held within 0 .. 99", "y:98", 98);
        costs("P24 held within 0 .. 99", "y:99", 99);
        costs("P24 held within 0 .. 99", "y:100", 99);
        costs("P24 held within 0 .. 99", "y:9999", 99);
        costs("P24 held within 0 .. 99", "y:9999*9999", 99);
        costs("P24 held at last alone", "y:500-450", 50);
        costs("P24 held at last alone", "y:0-50+100", 50);
    }

    /** "Behind each sign numbers are within -1,000,000 .. 1,000,000; / cuts towards 0, by 0 gives 0." "0 without" */
    private static void costNumbers() {
        costs("P24 + within 1,000,000", "y:9999*100+9999-9999*100-50", 50);
        costs("P24 + at 1,000,000", "y:9999*100+100-9999*100-50", 50);
        costs("P24 + one above 1,000,000", "y:9999*100+101-9999*100-50", 50);
        costs("P24 + one below 1,000,000", "y:9999*100+99-9999*100-50", 49);
        costs("P24 - within -1,000,000", "y:0-9999*100-9999+9999*100+150", 50);
        costs("P24 - at -1,000,000", "y:0-9999*100-100+9999*100+150", 50);
        costs("P24 - one below -1,000,000", "y:0-9999*100-101+9999*100+150", 50);
        costs("P24 - one above -1,000,000", "y:0-9999*100-99+9999*100+150", 51);
        costs("P24 - within 1,000,000", "y:9999*100-[0-9999]-9999*100-50", 50);
        costs("P24 + within -1,000,000", "y:[0-9999*100]+[0-9999]+9999*100+150", 50);
        costs("P24 * within 1,000,000", "y:9999*9999-9999*100-50", 50);
        costs("P24 * within -1,000,000", "y:[0-9999]*9999+9999*100+150", 50);
        costs("P24 * of the most", "y:9999*9999*[9999*9999]-9999*100-50", 50);
        costs("P24 * of the most and the least", "y:9999*9999*[0-9999*9999]+9999*100+150", 50);
        costs("P24 * behind each sign", "y:9999*9999*2/9999", 99);
        costs("P24 * behind each sign", "y:1000*1000*5/9999-50", 50);
        costs("P24 within, in a CONDITION", "y:9999*9999=1000*1000?7;y:8", 7);
        costs("P24 within, in a CONDITION", "y:0-9999*9999-1<0-1000*1000?7;y:8", 8);
        costs("P24 / cuts towards 0", "y:7/2", 3);
        costs("P24 / cuts towards 0", "y:[0-7]/2+10", 7);
        costs("P24 / cuts towards 0", "y:7/[0-2]+10", 7);
        costs("P24 / cuts towards 0", "y:[0-7]/[0-2]", 3);
        costs("P24 / cuts towards 0", "y:[0-1]/2+10", 10);
        costs("P24 / by 0 gives 0", "y:7/0", 0);
        costs("P24 / by 0 gives 0", "y:7/0+3", 3);
        costs("P24 / by 0 gives 0", "y:3-7/[2-2]", 3);
        costs("P24 / by 0 gives 0", "y:0/0+4", 4);
        costs("P24 / by 0 gives 0", "y:7/w*9+5", 5);
        costs("P24 * / from the left", "y:7/2*2", 6);
        costs("P24 + - from the left", "y:9-3-2", 4);
        costs("P24 * ahead of +", "y:2+3*4", 14);
        costs("P24 digits", "y:0009", 9);
        costs("P24 the first CLAUSE that holds", "y:1=2?5;y:1=1?6;y:1=1?7;y:8", 6);
        costs("P24 the first CLAUSE without a CONDITION", "y:1=2?5;y:6;y:1=1?7", 6);
        costs("P24 0 without", "y:1=2?5;y:1=3?6", 0);
        costs("P24 < >, not =", "y:1<1?5;y:1>1?6;y:1=1?7", 7);
        costs("P24 &: both", "y:1=1&1=1?5;y:6", 5);
        costs("P24 &: the first alone", "y:1=1&1=2?5;y:6", 6);
        costs("P24 &: the second alone", "y:1=2&1=1?5;y:6", 6);
        costs("P24 |: the first alone", "y:1=1|1=2?5;y:6", 5);
        costs("P24 |: the second alone", "y:1=2|1=1?5;y:6", 5);
        costs("P24 |: neither", "y:1=2|1=3?5;y:6", 6);
        costs("P24 three UNITS, the last does not hold", "y:1=1&1=1&1=2?5;y:6", 6);
        costs("P24 three TRUTHS, the last holds", "y:1=2|1=2|1=1?5;y:6", 5);
        costs("P24 ! <", "y:!1<2?5;y:6", 6);
        costs("P24 ! <", "y:!2<2?5;y:6", 5);
        costs("P24 ! >", "y:!2>1?5;y:6", 6);
        costs("P24 ! >", "y:!2>2?5;y:6", 5);
        costs("P24 < & >", "y:1<2&2>1?5;y:6", 5);
        costs("P24 & ahead of |", "y:1=1|1=1&1=2?5;y:6", 5);
        costs("P24 !, of the next UNIT alone", "y:!1=1|1=1?5;y:6", 5);
        costs("P24 !, of ( )", "y:!(1=1|1=1)?5;y:6", 6);
        costs("P24 six !", "y:!!!!!!1=1?5;y:6", 5);
        costs("P24 five !", "y:!!!!!1=1?5;y:6", 6);
        costs("P24 six [", "y:[[[[[[1+1]*2]*2]*2]*2]*2]", 64);
    }

    /** "letters: w SORT, i PART, x .. (0: TURNED, HIDDEN), n how many are ahead of it, b .. (5: none), t TIME." */
    private static void costLetters() {
        Edge.Script script = x -> {
            Due.tell(x, 0, "a");
            for (String law : new String[] {"y:w", "y:i", "y:x"}) {
                Due.tell(x, 1, law);
            }
            x.perform(Due.tell(x, 2, "p09;p58;t0;c57;j05;h0"));
        };
        int[][] due = {{0, 0, 1, 2, 3, 4}, {0, 5, 0, 5, 0, 0}, {9, 8, 0, 7, 5, 0}};
        for (int law = 0; law < 3; law++) {
            int l = law;
            for (int deed = 0; deed < 6; deed++) {
                int d = deed;
                Edge.answers("P24 letter " + "wix".charAt(law), script, x -> x.law(l) ? x.cost(d, 3, 2) : -9, due[law][deed]);
            }
        }
        Edge.Script other = x -> {
            Due.tell(x, 0, "a");
            for (String law : new String[] {"y:n", "y:b", "y:t"}) {
                Due.tell(x, 1, law);
            }
            x.make(0, 3, 3);
        };
        for (int n = 0; n <= 11; n++) {
            int many = n;
            Edge.answers("P24 letter n", other, x -> x.law(0) ? x.cost(0, many, 3) : -9, n);
        }
        for (int behind = 0; behind <= 5; behind++) {
            int b = behind;
            Edge.answers("P24 letter b", other, x -> x.law(1) ? x.cost(0, 7, b) : -9, behind);
            Edge.answers("P24 letter b with none ahead", other, x -> x.law(1) ? x.cost(0, 0, b) : -9, behind);
        }
        Edge.answers("P24 letter t", other, x -> x.law(2) ? x.cost(0, 0, 5) : -9, 1);
        Edge.answers("P24 letter t, one ACT more", Edge.then(other, x -> x.enter(0)), x -> x.law(2) ? x.cost(0, 0, 5) : -9, 2);
        Edge.answers("P24 letter t, the ACT UNDONE", Edge.then(other, x -> x.enter(0)),
                x -> x.law(2) ? x.undo() * 0 + x.cost(0, 0, 5) : -9, 1);
        Edge.answers("P24 letter t at the last TIME", x -> {
            x.feed(0x61000000, 0, 0, 0, 0); // a
            x.text(0);
            x.feed(0x793a742f, 0x31303100, 0, 0, 0); // y:t/101
            x.text(1);
            x.law(0);
            for (int i = 0; i < 499; i++) {
                x.years(20, i);
            }
            x.years(18, 1);
            x.make(0, x.shape(0, 0) == -1 ? 0 : 1, 0);
        }, x -> x.cost(0, 0, 5), 99);
    }

    /** "(none at first: its SORT and 1)" */
    private static void costNone() {
        Edge.Script script = Edge.made("a", "p09;p58;t0;c57;j05;h0");
        int[] due = {1, 1, 2, 3, 4, 5};
        for (int deed = 0; deed < 6; deed++) {
            int d = deed;
            Edge.answers("P24 none at first", script, x -> x.cost(d, 0, 5), due[deed]);
            Edge.answers("P24 none at first, as the last", script, x -> x.cost(d, 11, 0), due[deed]);
        }
    }

    // ---- promise 25 ----

    /** "NONE: no WORKSHOP. (Without DEEDS: 1.)" */
    private static void rowsAtEdges() {
        Edge.refused("P25 no WORKSHOP", Edge::textsAlone, -1, x -> x.rows());
        Edge.refused("P25 without DEEDS", Edge.shop("a"), 1, x -> x.rows());
        Edge.answers("P25 SOLD", Edge.then(Edge.made("a", "p00;p10"), x -> x.sell()), x -> x.rows(), 1);
        Edge.answers("P25 one DEED", Edge.made("a", "p00"), x -> x.rows(), 1);
        Edge.answers("P25 two", Edge.made("a", "p00;p10"), x -> x.rows(), 2);
        Edge.answers("P25 six PUT", Edge.made("a", "p00;p10;p20;p30;p40;p50"), x -> x.rows(), 720);
        Edge.answers("P25 twelve", Edge.made("a", TWELVE), x -> x.rows(), 7484400);
        Edge.answers("P25 one behind the other", Edge.made("a", "p00;t0;t0;t0"), x -> x.rows(), 1);
    }

    // ---- promise 26 ----

    /** "NONE: no such ones." */
    private static void rowNoSuch() {
        Edge.Script script = Edge.made("a", "p00;p10;p20");
        for (int i : Edge.outside(0, 5)) {
            Edge.refused("P26 row(" + i + ", 0)", script, -1, x -> x.row(i, 0));
            Edge.answers("P26 row(" + i + ", 2)", script, x -> x.row(i, 2), -1);
        }
        for (int at : Edge.outside(0, 2)) {
            Edge.refused("P26 row(0, " + at + ")", script, -1, x -> x.row(0, at));
            Edge.answers("P26 row(5, " + at + ")", script, x -> x.row(5, at), -1);
        }
        Edge.refused("P26 no DEEDS", Edge.shop("a"), -1, x -> x.row(0, 0));
        Edge.refused("P26 no WORKSHOP", Edge::nothing, -1, x -> x.row(0, 0));
        Edge.answers("P26 beyond all of twelve", Edge.made("a", TWELVE), x -> x.row(7484400, 0), -1);
        Edge.answers("P26 beyond twelve", Edge.made("a", TWELVE), x -> x.row(0, 12), -1);
    }

    /** "(of several ones first that with the lower number at the first place where they differ)" */
    private static void rowAtEdges() {
        int[][] rows = {{0, 1, 2}, {0, 2, 1}, {1, 0, 2}, {1, 2, 0}, {2, 0, 1}, {2, 1, 0}};
        for (int i = 0; i < 6; i++) {
            for (int at = 0; at < 3; at++) {
                int number = i;
                int place = at;
                Edge.answers("P26 row(" + i + ", " + at + ")", Edge.made("a", "p00;p10;p20"), x -> x.row(number, place),
                        rows[i][at]);
            }
        }
        Edge.answers("P26 one DEED", Edge.made("a", "p50"), x -> x.row(0, 0), 0);
        int[] last = {5, 11, 4, 10, 3, 9, 2, 8, 1, 7, 0, 6};
        for (int at = 0; at < 12; at++) {
            int place = at;
            Edge.answers("P26 the first of twelve", Edge.made("a", TWELVE), x -> x.row(0, place), at);
            Edge.answers("P26 the last of twelve", Edge.made("a", TWELVE), x -> x.row(7484399, place), last[at]);
        }
    }

    // ---- promise 27 ----

    /** "NONE: no such place." */
    private static void drawnNoSuch() {
        for (int at : Edge.outside(0, 7)) {
            Edge.refused("P27 drawn(1, " + at + ")", Edge::busy, -1, x -> x.drawn(1, at));
        }
        Edge.refused("P27 no DEEDS", Edge.shop("a"), -1, x -> x.drawn(1, 0));
        Edge.refused("P27 no WORKSHOP", Edge::nothing, -1, x -> x.drawn(1, 0));
    }

    /** "x .. (64 bits, going round); a draw of j: (x shifted right by 33, without sign) modulo j" */
    private static void drawnSeeds() {
        long[] seeds = {0, 1, -1, 2, Long.MIN_VALUE, Long.MAX_VALUE, 1L << 32, 1L << 33, 1L << 62, -6364136223846793005L};
        for (long seed : seeds) {
            long state = seed * 6364136223846793005L + 1442695040888963407L;
            for (String making : new String[] {"p00", "p00;p10;p20;t0;t1", TWELVE}) {
                UndoTrade x = Due.made("a", making);
                int number = (int) ((state >>> 33) % x.rows());
                for (int at = 0; at < x.count(1); at++) {
                    Due.due("P27 drawn(" + seed + ", " + at + ")", x.drawn(seed, at), x.row(number, at));
                }
            }
        }
        Edge.answers("P27 drawn(0, ..)", Edge.made("a", "p00;p10;p20"), x -> x.drawn(0, 0) * 100
                + x.drawn(0, 1) * 10 + x.drawn(0, 2), rowOf((int) ((1442695040888963407L >>> 33) % 6)));
    }

    private static int rowOf(int i) {
        int[] rows = {12, 21, 102, 120, 201, 210};
        return rows[i];
    }

    // ---- promise 28 ----

    /** "NONE: no such place, no WORKSHOP." */
    private static void cheapestNoSuch() {
        for (int at : Edge.outside(-1, 7)) {
            Edge.refused("P28 cheapest(" + at + ")", Edge::busy, -1, x -> x.cheapest(at));
        }
        Edge.refused("P28 no WORKSHOP", Edge::textsAlone, -1, x -> x.cheapest(-1), x -> x.cheapest(0));
        Edge.refused("P28 no DEEDS: no place", Edge.shop("a"), -1, x -> x.cheapest(0));
    }

    /** "COST (at NONE)"; "(of several the first)" */
    private static void cheapestAtEdges() {
        Edge.refused("P28 no DEEDS: COST", Edge.shop("a"), 0, x -> x.cheapest(-1));
        Edge.answers("P28 one DEED", Edge.made("a", "p00"), x -> x.cheapest(-1) * 10 + x.cheapest(0), 10);
        Edge.Script dear = Edge.then(Edge.made("a", TWELVE), x -> Due.law(x, "y:9999"));
        Edge.answers("P28 twelve of 99", dear, x -> x.cheapest(-1), 1188);
        Edge.Script free = Edge.then(Edge.made("a", TWELVE), x -> Due.law(x, "y:0-9"));
        Edge.answers("P28 twelve of 0", free, x -> x.cheapest(-1), 0);
        for (int at = 0; at < 12; at++) {
            int place = at;
            Edge.answers("P28 of several the first", dear, x -> x.cheapest(place), at);
            Edge.answers("P28 of several the first", free, x -> x.cheapest(place), at);
        }
        Edge.Script late = Edge.then(Edge.made("a", "p00;p10;p20"), x -> Due.law(x, "y:i*[2-n]"));
        Edge.answers("P28 the COST at each place", late, x -> x.cheapest(-1), 1);
        Edge.answers("P28 the DEED at each place", late, x -> x.cheapest(0) * 100 + x.cheapest(1) * 10 + x.cheapest(2), 12);
        Edge.Script sorts = Edge.then(Edge.made("a", "p00;p10;t0;t1"), x -> Due.law(x, "y:b=5?9*i;y:b=w?5;y:1"));
        Edge.answers("P28 behind each SORT", sorts, x -> x.cheapest(-1), 3);
        Edge.answers("P28 behind each SORT", sorts, x -> x.cheapest(0) * 1000 + x.cheapest(1) * 100 + x.cheapest(2) * 10
                + x.cheapest(3), 213);
    }

    // ---- promise 29 ----

    /** "NONE: no such ones." */
    private static void placesNoSuch() {
        for (int deed : Edge.outside(0, 7)) {
            Edge.refused("P29 places(" + deed + ", 0)", Edge::busy, -1, x -> x.places(deed, 0));
            Edge.answers("P29 places(" + deed + ", 1)", Edge::busy, x -> x.places(deed, 1), -1);
        }
        for (int what : Edge.outside(0, 1)) {
            Edge.refused("P29 places(0, " + what + ")", Edge::busy, -1, x -> x.places(0, what));
        }
        Edge.refused("P29 no DEEDS", Edge.shop("a"), -1, x -> x.places(0, 0));
        Edge.refused("P29 no WORKSHOP", Edge::nothing, -1, x -> x.places(0, 0));
    }

    private static void placesAtEdges() {
        Edge.answers("P29 one DEED", Edge.made("a", "p00"), x -> x.places(0, 0) * 10 + x.places(0, 1), 0);
        Edge.answers("P29 anywhere", Edge.made("a", TWELVE), x -> x.places(0, 0) * 100 + x.places(0, 1), 10);
        Edge.answers("P29 anywhere behind one", Edge.made("a", TWELVE), x -> x.places(11, 0) * 100 + x.places(11, 1), 111);
        for (int deed = 0; deed < 4; deed++) {
            int d = deed;
            Edge.answers("P29 one place", Edge.made("a", "p00;t0;t0;t0"), x -> x.places(d, 0) * 10 + x.places(d, 1), deed * 11);
        }
    }

    // ---- promise 30 ----

    /** "NONE: no such ones." */
    private static void needsNoSuch() {
        for (int deed : Edge.outside(0, 7)) {
            Edge.refused("P30 needs(" + deed + ", 0)", Edge::busy, -1, x -> x.needs(deed, 0));
            Edge.answers("P30 needs(" + deed + ", 1)", Edge::busy, x -> x.needs(deed, 1), -1);
        }
        for (int what : Edge.outside(0, 1)) {
            Edge.refused("P30 needs(0, " + what + ")", Edge::busy, -1, x -> x.needs(0, what));
        }
        Edge.refused("P30 no DEEDS", Edge.shop("a"), -1, x -> x.needs(0, 0));
        Edge.refused("P30 no WORKSHOP", Edge::nothing, -1, x -> x.needs(0, 0));
    }

    /** "NEEDS of a DEED (bits), also what these need; NEEDED: DEEDS that need it so." */
    private static void needsAtEdges() {
        Edge.answers("P30 none", Edge.made("a", "p00;p10"), x -> x.needs(0, 0) * 10 + x.needs(0, 1), 0);
        Edge.answers("P30 all ahead", Edge.made("a", "p00;t0;t0;t0"), x -> x.needs(3, 0), 7);
        Edge.answers("P30 all behind", Edge.made("a", "p00;t0;t0;t0"), x -> x.needs(0, 1), 14);
        Edge.answers("P30 the last one is NEEDED by none", Edge.made("a", "p00;t0;t0;t0"), x -> x.needs(3, 1), 0);
        String piece = "p00;p10;p20;t0;c11;t1;j01;c22;c03;h0;j12";
        int[] needs = {0, 0, 0, 1, 2, 2, 1 + 2 + 8 + 16, 4, 1, 1 + 2 + 8 + 16 + 64 + 256, 2 + 4 + 32 + 128};
        for (int deed = 0; deed < needs.length; deed++) {
            int d = deed;
            int needed = 0;
            for (int other = 0; other < needs.length; other++) {
                needed |= (needs[other] >> deed & 1) << other;
            }
            Edge.answers("P30 NEEDS of " + deed, Edge.made("a", piece), x -> x.needs(d, 0), needs[deed]);
            Edge.answers("P30 NEEDED " + deed, Edge.made("a", piece), x -> x.needs(d, 1), needed);
        }
    }

    // ---- promise 31 ----

    /** "NONE: no such DEEDS." */
    private static void sureNoSuch() {
        for (int deed : Edge.outside(0, 7)) {
            Edge.refused("P31 sure(" + deed + ", 0)", Edge::busy, -1, x -> x.sure(deed, 0));
            Edge.refused("P31 sure(0, " + deed + ")", Edge::busy, -1, x -> x.sure(0, deed));
            Edge.answers("P31 sure(" + deed + ", itself)", Edge::busy, x -> x.sure(deed, deed), -1);
        }
        Edge.refused("P31 no DEEDS", Edge.shop("a"), -1, x -> x.sure(0, 0));
        Edge.refused("P31 no WORKSHOP", Edge::nothing, -1, x -> x.sure(0, 0));
    }

    private static void sureAtEdges() {
        Edge.answers("P31 itself", Edge.made("a", "p00"), x -> x.sure(0, 0), 0);
        Edge.answers("P31 through another one", Edge.made("a", "p00;t0;t0"), x -> x.sure(0, 2) * 10 + x.sure(2, 0), 10);
        Edge.answers("P31 neither", Edge.made("a", "p00;p10"), x -> x.sure(0, 1) * 10 + x.sure(1, 0), 0);
        Edge.answers("P31 the twelfth", Edge.made("a", TWELVE), x -> x.sure(5, 11) * 10 + x.sure(4, 11), 10);
    }

    // ---- promise 36 ----

    /** "HIDDEN: no WORKSHOP, no such what." */
    private static void gameNoSuch() {
        for (int what : Edge.outside(0, 1)) {
            Edge.refused("P36 game(" + what + ")", Edge::busy, HIDDEN, x -> x.game(what));
        }
        Edge.refused("P36 no WORKSHOP", Edge::textsAlone, HIDDEN, x -> x.game(0), x -> x.game(1));
    }

    /** "his first DEED (1; NONE: there is none)", "(of several the lowest)" */
    private static void gameAtEdges() {
        Edge.refused("P36 no DEEDS", Edge.shop("a"), 0, x -> x.game(0));
        Edge.refused("P36 no DEEDS: there is none", Edge.shop("a"), -1, x -> x.game(1));
        Edge.answers("P36 one DEED", Edge.made("a", "p00"), x -> x.game(0) * 10 + x.game(1), 10);
        Edge.answers("P36 two alike", Edge.made("a", "p00;p10"), x -> x.game(0) * 10 + x.game(1), 0);
        Edge.answers("P36 one way alone, less than nothing", Edge.then(Edge.made("a", "p00;t0"), x -> Due.law(x, "y:w=0?99;y:0")),
                x -> x.game(0), -99);
        Edge.answers("P36 its first DEED", Edge.then(Edge.made("a", "p00;t0"), x -> Due.law(x, "y:w=0?99;y:0")),
                x -> x.game(1), 1);
        Edge.answers("P36 twelve of 99", Edge.then(Edge.made("a", TWELVE), x -> Due.law(x, "y:9999")),
                x -> x.game(0) * 100 + x.game(1), 6);
        Edge.answers("P36 eleven of 99", Edge.then(Edge.made("sm11;a", TWELVE), x -> Due.law(x, "y:9999")),
                x -> x.game(0) * 100 + x.game(1), 9905);
        Edge.answers("P36 as the first of a row", Edge.then(Edge.made("a", "p00"), x -> Due.law(x, "y:b*10+n")),
                x -> x.game(0), 50);
        Edge.answers("P36 at TIME as it is", Edge.then(Edge.made("a", "p00"), x -> Due.law(x, "y:t*7")), x -> x.game(0), 7);
    }

    /** "(Apart, from as it is.)": what these ask changes nothing. */
    private static void askingChangesNothing() {
        Edge.changesNothing("P20 P21 P23 asking", Edge::busy, x -> x.step(0, 0, 0), x -> x.run(1, 0), x -> x.run(1, 1),
                x -> x.alike(0, 1));
        Edge.changesNothing("P24 to P28 asking", Edge::busy, x -> x.cost(0, 0, 5), x -> x.rows(), x -> x.row(3, 3),
                x -> x.drawn(5, 5), x -> x.cheapest(-1), x -> x.cheapest(3));
        Edge.changesNothing("P29 to P31 asking", Edge::busy, x -> x.places(3, 0), x -> x.needs(3, 1), x -> x.sure(0, 3));
        Edge.changesNothing("P36 asking", Edge::busy, x -> x.game(0), x -> x.game(1));
    }
}
