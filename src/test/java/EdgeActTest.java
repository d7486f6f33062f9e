/** The boundary cases of promises 11 to 19 and 22: acts, years, acts undone, the log, makings performed. */
public final class EdgeActTest {
    public static void main(String[] args) {
        makeNoSuch();
        makePut();
        makeTurned();
        makeCoated();
        makeJoined();
        makeHidden();
        makeUpToTheMost();
        makeWithoutX();
        undoesNoSuch();
        undoesNeeded();
        undoesNotNeeded();
        takesRefused();
        takesAtEdges();
        learning();
        enterNoSuch();
        forgetsRefused();
        forgetsEachSort();
        sellNone();
        yearsBounds();
        yearsOfNothing();
        yearsByHaste();
        yearsSeeds();
        undoNone();
        undoForty();
        undoWhat();
        logNoSuch();
        logSixty();
        logWhat();
        performRefused();
        performUpTo();
        lastTime();
        lastTimeOfYears();
        lastTimeOfPerform();
        lastTimeDoesNotMatter();
        Due.close();
    }

    // ---- promise 11 ----

    /** It can be done: how many deeds then, one act more, the log tells it. */
    private static void can(String sentence, String making, int sort, int part, int x) {
        UndoTrade y = Due.made("a", making);
        int before = deedsOf(making);
        Due.due(sentence + ": what it goes on from", y.count(1), before);
        int time = y.count(6);
        Due.due(sentence, y.make(sort, part, x), before + 1);
        Due.due(sentence + ": TIME", y.count(6), time + 1);
        Due.due(sentence + ": ACTS", y.count(11), time + 1);
        Due.due(sentence + ": LOG", y.log(0, 0) * 100 + y.log(0, 1), sort * 100 + before + 1);
        Due.due(sentence + ": it is the last", y.deed(before, 0) * 10 + y.deed(before, 1), sort * 10 + part);
    }

    private static int deedsOf(String making) {
        return making.isEmpty() ? 0 : making.split(";").length;
    }

    private static void cannot(String sentence, String making, int sort, int part, int x) {
        Edge.answers(sentence + ": what it goes on from", Edge.made("a", making), y -> y.count(1), deedsOf(making));
        Edge.refused(sentence, Edge.made("a", making), -1, y -> y.make(sort, part, x));
    }

    private static void makeNoSuch() {
        for (int sort : Edge.outside(0, 4)) {
            Edge.refused("P11 make(" + sort + ", 0, 0)", Edge::busy, -1, x -> x.make(sort, 0, 0));
            Edge.refused("P11 make(" + sort + ", 4, 1)", Edge::busy, -1, x -> x.make(sort, 4, 1));
        }
        for (int part : Edge.outside(0, 5)) {
            for (int sort = 0; sort < 5; sort++) {
                int s = sort;
                Edge.refused("P11 make(" + sort + ", " + part + ", 1)", Edge::busy, -1, x -> x.make(s, part, 1));
            }
        }
        Edge.refused("P11 no WORKSHOP", Edge::nothing, -1, x -> x.make(0, 0, 0));
    }

    /** "PUT: the PART is not there" */
    private static void makePut() {
        for (int part = 0; part < 6; part++) {
            can("P11 PUT " + part, "", 0, part, 0);
            cannot("P11 PUT, it is there " + part, "p" + part + "0", 0, part, 0);
            cannot("P11 PUT of another KIND, it is there " + part, "p" + part + "0", 0, part, 1);
        }
        for (int kind = 0; kind <= 9; kind++) {
            can("P11 PUT of KIND " + kind, "", 0, 3, kind);
        }
        for (int kind : Edge.outside(0, 9)) {
            cannot("P11 PUT of KIND " + kind, "p10", 0, 0, kind);
        }
        Edge.answers("P11 PUT again, when it was taken back", Edge.made("a", "p00"),
                x -> x.undoes(0) * 10 + x.make(0, 0, 0), 1);
    }

    /** "TURNED: it is there, not JOINED onto another one, TURNED less than three times" */
    private static void makeTurned() {
        cannot("P11 TURNED, not there", "p10", 1, 0, 0);
        can("P11 TURNED once", "p00", 1, 0, 0);
        can("P11 TURNED twice", "p00;t0", 1, 0, 0);
        can("P11 TURNED three times", "p00;t0;t0", 1, 0, 0);
        cannot("P11 TURNED four times", "p00;t0;t0;t0", 1, 0, 0);
        can("P11 TURNED, another one three times", "p00;p10;t1;t1;t1", 1, 0, 0);
        cannot("P11 TURNED, JOINED onto another one", "p00;p10;j01", 1, 0, 0);
        cannot("P11 TURNED, HIDDEN", "p00;p10;j01;h0", 1, 0, 0);
        can("P11 TURNED, another one JOINED onto it", "p00;p10;j01", 1, 1, 0);
        can("P11 TURNED, a HIDDEN one JOINED onto it", "p00;p10;j01;h0", 1, 1, 0);
        can("P11 TURNED, COATED three times", "p00;c01;c01;c01", 1, 0, 0);
        Edge.answers("P11 TURNED, the third taken back", Edge.made("a", "p00;t0;t0;t0"),
                x -> x.undoes(3) * 10 + x.make(1, 0, 0), 34);
    }

    /** "COATED (1 .. 9): it is there, not HIDDEN, nothing is JOINED onto it, COATED less than three times" */
    private static void makeCoated() {
        cannot("P11 COATED, not there", "p10", 2, 0, 1);
        for (int colour = 1; colour <= 9; colour++) {
            can("P11 COATED with " + colour, "p00", 2, 0, colour);
        }
        for (int colour : Edge.outside(1, 9)) {
            cannot("P11 COATED with " + colour, "p00", 2, 0, colour);
        }
        can("P11 COATED twice", "p00;c01", 2, 0, 1);
        can("P11 COATED three times", "p00;c01;c01", 2, 0, 1);
        cannot("P11 COATED four times", "p00;c01;c02;c03", 2, 0, 4);
        can("P11 COATED, another one three times", "p00;p10;c11;c12;c13", 2, 0, 4);
        cannot("P11 COATED, HIDDEN", "p00;p10;j01;h0", 2, 0, 1);
        cannot("P11 COATED, one JOINED onto it", "p00;p10;j01", 2, 1, 1);
        cannot("P11 COATED, a HIDDEN one JOINED onto it", "p00;p10;j01;h0", 2, 1, 1);
        can("P11 COATED, JOINED onto another one", "p00;p10;j01", 2, 0, 1);
        can("P11 COATED, TURNED three times", "p00;t0;t0;t0", 2, 0, 1);
        Edge.answers("P11 COATED, the JOIN taken back", Edge.made("a", "p00;p10;j01"),
                x -> x.undoes(2) * 10 + x.make(2, 1, 1), 23);
    }

    /**
     * "JOINED: both are there, unlike, it is not JOINED yet, the other one is not HIDDEN and does not stand on it (by
     * JOINS, at once or through others)"
     */
    private static void makeJoined() {
        can("P11 JOINED", "p00;p10", 3, 0, 1);
        can("P11 JOINED, the least onto the most", "p00;p50", 3, 0, 5);
        can("P11 JOINED, the most onto the least", "p00;p50", 3, 5, 0);
        cannot("P11 JOINED, it is not there", "p00;p10", 3, 2, 0);
        cannot("P11 JOINED, the other one is not there", "p00;p10", 3, 0, 2);
        for (int other : Edge.outside(0, 5)) {
            cannot("P11 JOINED onto " + other, "p00;p10", 3, 0, other);
        }
        cannot("P11 JOINED onto 9, which tells that a PART is not JOINED", "p00;p10", 3, 0, 9);
        cannot("P11 JOINED, not unlike", "p00;p10", 3, 1, 1);
        cannot("P11 JOINED already, onto that one", "p00;p10;j01", 3, 0, 1);
        cannot("P11 JOINED already, onto another one", "p00;p10;p20;j01", 3, 0, 2);
        cannot("P11 JOINED, the other one is HIDDEN", "p00;p10;p20;j01;h0", 3, 2, 0);
        can("P11 JOINED, the other one's lower one", "p00;p10;p20;j01;h0", 3, 2, 1);
        cannot("P11 JOINED, the other one stands on it at once", "p00;p10;j01", 3, 1, 0);
        cannot("P11 JOINED, the other one stands on it through one", "p00;p10;p20;j01;j12", 3, 2, 0);
        cannot("P11 JOINED, the other one stands on it through four",
                "p00;p10;p20;p30;p40;p50;j01;j12;j23;j34;j45", 3, 5, 0);
        can("P11 JOINED, five one over the other", "p00;p10;p20;p30;p40;p50;j01;j12;j23;j34", 3, 4, 5);
        can("P11 JOINED, six one over the other", "p00;p10;p20;p30;p40;p50;j01;j12;j23;j34", 3, 5, 0);
        can("P11 JOINED, the other one stands on a third", "p00;p10;p20;j01", 3, 2, 0);
        can("P11 JOINED, one stands on it", "p00;p10;p20;j01", 3, 1, 2);
        can("P11 JOINED, a second one onto the other", "p00;p10;p20;j01", 3, 2, 1);
        can("P11 JOINED, COATED and TURNED three times", "p00;p10;t0;t0;t0;c11;c11;c11", 3, 0, 1);
        Edge.answers("P11 JOINED, when its JOIN was taken back", Edge.made("a", "p00;p10;j01"),
                x -> x.undoes(2) * 10 + x.make(3, 1, 0), 23);
    }

    /** "HIDDEN: it is JOINED onto another one, not HIDDEN, nothing is JOINED onto it" */
    private static void makeHidden() {
        can("P11 HIDDEN", "p00;p10;j01", 4, 0, 0);
        cannot("P11 HIDDEN, not there", "p00;p10;j01", 4, 2, 0);
        cannot("P11 HIDDEN, not JOINED", "p00;p10", 4, 0, 0);
        cannot("P11 HIDDEN, not JOINED, one JOINED onto it", "p00;p10;j01", 4, 1, 0);
        cannot("P11 HIDDEN already", "p00;p10;j01;h0", 4, 0, 0);
        cannot("P11 HIDDEN, one JOINED onto it", "p00;p10;p20;j01;j20", 4, 0, 0);
        cannot("P11 HIDDEN, a HIDDEN one JOINED onto it", "p00;p10;p20;j01;j20;h2", 4, 0, 0);
        can("P11 HIDDEN, the upper one", "p00;p10;p20;j01;j20", 4, 2, 0);
        can("P11 HIDDEN, another one is", "p00;p10;p20;j01;j21;h0", 4, 2, 0);
        Edge.answers("P11 HIDDEN, when what was on it is taken back", Edge.made("a", "p00;p10;p20;j01;j20"),
                x -> x.undoes(4) * 10 + x.make(4, 0, 0), 45);
    }

    /** "A DEED can be DONE, if there are fewer than may be" */
    private static void makeUpToTheMost() {
        String all = "p00;p10;p20;p30;p40;p50;t0;t1;t2;t3;t4;t5;t0;t1;t2;t3";
        for (int m = 1; m <= 12; m++) {
            int most = m;
            Edge.Script script = Edge.made("sm" + m + ";a", all);
            Edge.answers("P11 as many as may be " + m, script, x -> x.count(1), m);
            Edge.refused("P11 one more than may be " + m, script, -1, x -> x.make(1, 0, 0));
            Edge.refused("P11 one more than may be " + m, script, -1, x -> x.make(0, 5, 0));
            Edge.answers("P11 one is taken back " + m, script, x -> x.undoes(most - 1), m - 1);
            Edge.answers("P11 room for one again " + m, script, x -> {
                x.undoes(most - 1);
                return most > 6 ? x.make(1, 0, 0) : x.make(0, most - 1, 5);
            }, m);
        }
    }

    /** "(x of TURNED, HIDDEN does not matter.)" */
    private static void makeWithoutX() {
        for (int v : new int[] {Integer.MIN_VALUE, -1, 0, 9, 10, 99, Integer.MAX_VALUE}) {
            Edge.answers("P11 TURNED with " + v, Edge.made("a", "p00;p10"), x -> x.make(1, 0, v), 3);
            Edge.answers("P11 HIDDEN with " + v, Edge.made("a", "p00;p10;j01"), x -> x.make(4, 0, v), 4);
            Edge.answers("P8 x of TURNED", Edge.made("a", "p00;p10"), x -> x.make(1, 0, v) * 10 + x.deed(2, 2), 30);
            Edge.answers("P8 x of HIDDEN", Edge.made("a", "p00;p10;j01"), x -> x.make(4, 0, v) * 10 + x.deed(3, 2), 40);
        }
    }

    // ---- promise 12 ----

    /** "NONE: no such DEED" */
    private static void undoesNoSuch() {
        for (int deed : Edge.outside(0, 7)) {
            Edge.refused("P12 undoes(" + deed + ")", Edge::busy, -1, x -> x.undoes(deed));
        }
        Edge.refused("P12 no DEEDS", Edge.shop("a"), -1, x -> x.undoes(0));
        Edge.refused("P12 no WORKSHOP", Edge::nothing, -1, x -> x.undoes(0));
    }

    private static void needed(String sentence, String making, int deed) {
        Edge.answers(sentence + ": DEEDS", Edge.made("a", making), x -> x.count(1), deedsOf(making));
        Edge.refused(sentence, Edge.made("a", making), -1, x -> x.undoes(deed));
    }

    private static void free(String sentence, String making, int deed) {
        int size = deedsOf(making);
        Edge.answers(sentence, Edge.made("a", making), x -> x.count(1) * 100 + x.undoes(deed), size * 100 + size - 1);
    }

    /** "NONE: .. one NEEDS it": each sort by each that can need it. */
    private static void undoesNeeded() {
        needed("P12 its PART is PUT, by TURNED", "p00;t0", 0);
        needed("P12 its PART is PUT, by COATED", "p00;c01", 0);
        needed("P12 its PART is PUT, by JOINED", "p00;p10;j01", 0);
        needed("P12 the other PART is PUT, by JOINED", "p00;p10;j01", 1);
        needed("P12 its PART is PUT, by HIDDEN", "p00;p10;j01;h0", 0);
        needed("P12 TURNS ahead, by TURNED", "p00;t0;t0", 1);
        needed("P12 TURNS ahead, by TURNED, the first of three", "p00;t0;t0;t0", 1);
        needed("P12 TURNS ahead, by TURNED, the second of three", "p00;t0;t0;t0", 2);
        needed("P12 COATS ahead, by COATED", "p00;c01;c01", 1);
        needed("P12 COATS ahead, by COATED, the second of three", "p00;c01;c02;c03", 2);
        needed("P12 TURNS of the PART, by JOINED", "p00;p10;t0;j01", 2);
        needed("P12 COATS of the other one, by JOINED", "p00;p10;c11;j01", 2);
        needed("P12 that it is JOINED, by HIDDEN", "p00;p10;j01;h0", 2);
        needed("P12 its COATS, by HIDDEN", "p00;p10;j01;c01;h0", 3);
        needed("P12 its COATS ahead of the JOIN, by HIDDEN", "p00;p10;c01;j01;h0", 2);
        needed("P12 its TURNS, by HIDDEN", "p00;p10;t0;j01;h0", 2);
    }

    /** What is not named is not needed. */
    private static void undoesNotNeeded() {
        free("P12 the last one", "p00;t0;c01", 2);
        free("P12 a PUT alone", "p00;p10;t1", 0);
        free("P12 TURNS, by COATED", "p00;t0;c01", 1);
        free("P12 COATS, by TURNED", "p00;c01;t0", 1);
        free("P12 TURNS of another one, by TURNED", "p00;p10;t0;t1", 2);
        free("P12 COATS of another one, by COATED", "p00;p10;c01;c11", 2);
        free("P12 COATS of the PART, by JOINED", "p00;p10;c01;j01", 2);
        free("P12 TURNS of the other one, by JOINED", "p00;p10;t1;j01", 2);
        free("P12 TURNS of the other one behind the JOIN", "p00;p10;j01;t1", 3);
        free("P12 the JOIN of the lower one, by JOINED", "p00;p10;p20;j12;j01", 3);
        free("P12 the JOIN of an upper one, by JOINED", "p00;p10;p20;j01;j12", 3);
        free("P12 the JOIN, by COATED behind it", "p00;p10;j01;c01", 2);
        free("P12 a JOIN onto the same one", "p00;p10;p20;j01;j21", 3);
        free("P12 TURNS of the lower one, by HIDDEN", "p00;p10;t1;j01;h0", 2);
        free("P12 a JOIN of the lower one, by HIDDEN", "p00;p10;p20;j01;j12;h0", 4);
        free("P12 HIDDEN", "p00;p10;j01;h0", 3);
        int[][] others = {{0, 1, 8}, {2, 1, 4}, {0, 2, 6}, {1, 2, 0}, {3, 1, 2}};
        for (int deed = 0; deed < others.length; deed++) {
            for (int what = 0; what < 3; what++) {
                int d = deed;
                int w = what;
                Edge.answers("P12 the others keep their order", Edge.then(Edge.made("a", "p09;p18;c14;p26;t2;j12"),
                        x -> x.undoes(0)), x -> x.deed(d, w), others[deed][what]);
            }
        }
        Edge.answers("P12 the first of all", Edge.made("a", "p00;p11;p22"), x -> x.undoes(0) * 100 + x.deed(0, 1), 201);
        Edge.answers("P12 the only one", Edge.made("a", "p00"), x -> x.undoes(0) + x.count(1), 0);
    }

    // ---- promise 13 ----

    /** "NONE: no such ones, he does not KNOW its SORT, one NEEDS it" */
    private static void takesRefused() {
        Edge.Script script = Edge.made("ak15;ak16r0;ak31r0", "p00;p10;t0;c13;j01;c09;h0;p20");
        for (int apprentice : Edge.outside(0, 2)) {
            Edge.refused("P13 takes(" + apprentice + ", 7)", script, -1, x -> x.takes(apprentice, 7));
        }
        for (int deed : Edge.outside(0, 7)) {
            Edge.refused("P13 takes(2, " + deed + ")", script, -1, x -> x.takes(2, deed));
        }
        Edge.refused("P13 he does not KNOW its SORT", script, -1, x -> x.takes(0, 6), x -> x.takes(1, 7));
        for (int deed = 0; deed < 6; deed++) {
            int d = deed;
            Edge.refused("P13 one NEEDS it " + deed, script, -1, x -> x.takes(2, d));
        }
        Edge.refused("P13 no DEEDS", Edge.shop("ak31"), -1, x -> x.takes(0, 0));
        Edge.refused("P13 no WORKSHOP", Edge::nothing, -1, x -> x.takes(0, 0));
    }

    /** He knows that one sort alone, and takes it; he knows all but that one, and does not. */
    private static void takesAtEdges() {
        String[] makings = {"p00", "p00;t0", "p00;c01", "p00;p10;j01", "p00;p10;j01;h0"};
        for (int sort = 0; sort < 5; sort++) {
            int last = makings[sort].split(";").length - 1;
            Edge.answers("P13 SORT " + sort, Edge.made("ak" + (1 << sort) + "r0", makings[sort]), x -> x.takes(0, last), last);
            Edge.refused("P13 all SORTS but " + sort, Edge.made("ak" + (31 - (1 << sort)), makings[sort]), -1,
                    x -> x.takes(0, last));
            int s = sort;
            Edge.answers("P13 LOG", Edge.made("ak31", makings[sort]),
                    x -> x.takes(0, last) * 100 + x.log(0, 0) * 10 + x.log(0, 1), last * 100 + (5 + s) * 10 + last);
        }
        Edge.answers("P13 out of the ROOM", Edge.made("ak1r0", "p00"), x -> x.takes(0, 0), 0);
        Edge.answers("P13 the fourth one", Edge.made("a;a;a;ak1", "p00"), x -> x.takes(3, 0), 0);
        Edge.answers("P13 what he has learnt", Edge.made("a", "p00;p10"), x -> x.undoes(1) * 10 + x.takes(0, 0), 10);
    }

    /** "Whenever a DEED is TAKEN BACK, APPRENTICES in the ROOM LEARN"; "(all DEEDS are gone: nobody LEARNS ..)" */
    private static void learning() {
        String[] makings = {"p00", "p00;t0", "p00;c01", "p00;p10;j01", "p00;p10;j01;h0"};
        for (int sort = 0; sort < 5; sort++) {
            int last = makings[sort].split(";").length - 1;
            Edge.Script script = Edge.made("a;ar0;ak31r0;ak16", makings[sort]);
            Edge.answers("P12 those in the ROOM", script, x -> x.undoes(last) * 100 + Due.apprentice(x, 0, 0),
                    last * 100 + (1 << sort));
            Edge.answers("P12 those in the ROOM keep what they KNOW", script,
                    x -> x.undoes(last) * 100 + Due.apprentice(x, 3, 0), last * 100 + (16 | 1 << sort));
            Edge.answers("P12 not those out of it", script, x -> x.undoes(last) * 100 + Due.apprentice(x, 1, 0), last * 100);
            Edge.answers("P13 those in the ROOM", script, x -> x.takes(2, last) * 100 + Due.apprentice(x, 0, 0),
                    last * 100 + (1 << sort));
            Edge.answers("P13 not those out of it", script, x -> x.takes(2, last) * 100 + Due.apprentice(x, 1, 0), last * 100);
            Edge.answers("P16 nobody LEARNS", script, x -> x.sell() * 100 + Due.apprentice(x, 0, 0), (last + 1) * 100);
            Edge.answers("P18 nobody LEARNS by what is UNDONE", script, x -> x.undo() * 100 + Due.apprentice(x, 0, 0),
                    last * 100);
            Edge.answers("P11 nobody LEARNS by what is DONE", script, x -> Due.apprentice(x, 0, 0), 0);
        }
        Edge.answers("P17 those in the ROOM, when YEARS take back", Edge.then(Edge.made("a;ar0", "p00"), x -> x.haste(9)),
                x -> x.years(1, seedOf(0, 9)) * 100 + x.count(1) * 50 + Due.apprentice(x, 0, 0) * 10 + Due.apprentice(x, 1, 0),
                210);
    }

    // ---- promise 14 ----

    /** "NONE: no such APPRENTICE" */
    private static void enterNoSuch() {
        for (int apprentice : Edge.outside(0, 2)) {
            Edge.refused("P14 enter(" + apprentice + ")", Edge::busy, -1, x -> x.enter(apprentice));
        }
        Edge.refused("P14 no WORKSHOP", Edge::nothing, -1, x -> x.enter(0));
        Edge.answers("P14 out", Edge.shop("a;a;a;a"), x -> x.enter(3) * 10 + Due.apprentice(x, 3, 1), 0);
        Edge.answers("P14 in", Edge.shop("a;a;a;ar0"), x -> x.enter(3) * 10 + Due.apprentice(x, 3, 1), 11);
        Edge.answers("P14 in and out", Edge.shop("ar0"), x -> x.enter(0) * 10 + x.enter(0), 10);
        Edge.answers("P14 the others stay", Edge.shop("a;a;ar0"), x -> x.enter(1) + x.all(6) * 10 + Due.apprentice(x, 0, 1) * 2
                + Due.apprentice(x, 2, 1), 2);
        Edge.answers("P14 an ACT, no LOG", Edge.shop("a"), x -> x.enter(0) + x.count(6) * 100 + x.count(11) * 10 + x.count(10),
                110);
    }

    // ---- promise 15 ----

    /** "NONE: no such ones, he does not KNOW it" */
    private static void forgetsRefused() {
        Edge.Script script = Edge.made("ak31;ak21;ak31", "p00");
        for (int apprentice : Edge.outside(0, 2)) {
            Edge.refused("P15 forgets(" + apprentice + ", 0)", script, -1, x -> x.forgets(apprentice, 0));
        }
        for (int sort : Edge.outside(0, 4)) {
            Edge.refused("P15 forgets(0, " + sort + ")", script, -1, x -> x.forgets(0, sort));
        }
        Edge.refused("P15 he does not KNOW it", script, -1, x -> x.forgets(1, 1), x -> x.forgets(1, 3));
        Edge.refused("P15 he does not KNOW it any more", Edge.then(script, x -> x.forgets(1, 2)), -1, x -> x.forgets(1, 2));
        Edge.refused("P15 no WORKSHOP", Edge::nothing, -1, x -> x.forgets(0, 0));
    }

    private static void forgetsEachSort() {
        for (int sort = 0; sort < 5; sort++) {
            int s = sort;
            Edge.answers("P15 what he KNOWS then", Edge.shop("ak31r0"), x -> x.forgets(0, s), 31 - (1 << sort));
            Edge.answers("P15 nothing then", Edge.shop("ak" + (1 << sort)), x -> x.forgets(0, s), 0);
            Edge.answers("P15 the others KNOW it still", Edge.shop("ak31;ak31"),
                    x -> x.forgets(0, s) * 0 + Due.apprentice(x, 1, 0), 31);
        }
        Edge.answers("P15 an ACT, no LOG", Edge.shop("ak1"),
                x -> x.forgets(0, 0) + x.count(6) * 100 + x.count(11) * 10 + x.count(10), 110);
        Edge.answers("P15 he can LEARN it again", Edge.made("ak1", "p00"),
                x -> x.forgets(0, 0) + x.undoes(0) + Due.apprentice(x, 0, 0), 1);
    }

    // ---- promise 16 ----

    /** "NONE: there is none" */
    private static void sellNone() {
        Edge.refused("P16 there is none", Edge.shop("ak3"), -1, x -> x.sell());
        Edge.refused("P16 there is none any more", Edge.then(Edge.made("a", "p00"), x -> x.undoes(0)), -1, x -> x.sell());
        Edge.refused("P16 SOLD already", Edge.then(Edge::busy, x -> x.sell()), -1, x -> x.sell());
        Edge.refused("P16 no WORKSHOP", Edge::nothing, -1, x -> x.sell());
        Edge.answers("P16 one", Edge.made("a", "p00"), x -> x.sell() * 10 + x.count(1), 10);
        Edge.answers("P16 twelve", Edge.made("a", "p00;p10;p20;p30;p40;p50;t0;t1;t2;t3;t4;t5"),
                x -> x.sell() * 10 + x.count(1), 120);
        Edge.answers("P16 LOG", Edge.made("a", "p00;t0"), x -> x.sell() * 1000 + x.log(0, 0) * 10 + x.log(0, 1), 2100);
        Edge.answers("P16 from nothing then", Edge.made("a", "p00"), x -> x.sell() * 10 + x.make(0, 0, 4), 11);
    }

    // ---- promise 17 ----

    private static long next(long state) {
        return state * 6364136223846793005L + 1442695040888963407L;
    }

    private static int draw(long state, int of) {
        return (int) ((state >>> 33) % of);
    }

    /** A seed whose first draw of 10 is within these. */
    private static long seedOf(int least, int below) {
        long seed = 1;
        while (draw(next(seed), 10) < least || draw(next(seed), 10) >= below) {
            seed++;
        }
        return seed;
    }

    /** A seed by which such a deed is drawn, whatever haste is. */
    private static long seedOf(int sort, int part, int x) {
        for (long seed = 1;; seed++) {
            long a = next(seed);
            long b = next(a);
            long c = next(b);
            if (draw(a, 10) == 9 && draw(b, 5) == sort && draw(c, 6) == part && draw(next(c), 6) == x) {
                return seed;
            }
        }
    }

    /** "n (1 .. 20)": "NONE: .. out of bounds" */
    private static void yearsBounds() {
        for (int n : Edge.outside(1, 20)) {
            Edge.refused("P17 years(" + n + ", 1)", Edge::busy, -1, x -> x.years(n, 1));
        }
        Edge.refused("P17 no WORKSHOP", Edge::nothing, -1, x -> x.years(1, 1));
        for (int n = 1; n <= 20; n++) {
            int many = n;
            Edge.answers("P17 TIME", Edge.shop("a"), x -> x.years(many, 9), n);
            Edge.answers("P17 each is one ACT", Edge.shop("a"), x -> x.years(many, 9) * 0 + x.count(11), n);
        }
        Edge.answers("P17 TIME goes on", Edge::busy, x -> x.count(6) * 100 + x.years(20, 9), 1232);
        Edge.answers("P17 the latest 40 can be UNDONE", Edge.shop("a"),
                x -> x.years(20, 1) * 0 + x.years(20, 2) * 0 + x.years(20, 3) * 100 + x.count(11), 6040);
    }

    /** "(in the list's order; none: nothing)"; "DONE, if it can be"; "Each is one ACT, whatever came of it" */
    private static void yearsOfNothing() {
        Edge.Script hasty = Edge.then(Edge.shop("a"), x -> x.haste(9));
        Edge.answers("P17 none can be TAKEN BACK: an ACT", hasty, x -> x.years(1, seedOf(0, 9)) * 100 + x.count(11), 101);
        Edge.answers("P17 none can be TAKEN BACK: no LOG", hasty, x -> x.years(1, seedOf(0, 9)) * 100 + x.count(10), 100);
        Edge.answers("P17 none can be TAKEN BACK: no DEED", hasty, x -> x.years(1, seedOf(0, 9)) * 100 + x.count(1), 100);
        Edge.answers("P17 none can be TAKEN BACK: nobody LEARNS", hasty,
                x -> x.years(1, seedOf(0, 9)) * 100 + Due.apprentice(x, 0, 0), 100);
        Edge.answers("P17 a nothing can be UNDONE", hasty, x -> x.years(1, seedOf(0, 9)) * 100 + x.undo() * 10 + x.count(6),
                100);
        for (int sort = 1; sort < 5; sort++) {
            long seed = seedOf(sort, 2, 3);
            Edge.answers("P17 it can't be: an ACT, no LOG", Edge.shop("a"),
                    x -> x.years(1, seed) * 1000 + x.count(11) * 100 + x.count(10) * 10 + x.count(1), 1100);
        }
        long put = seedOf(0, 2, 3);
        Edge.answers("P17 it can be", Edge.shop("a"), x -> x.years(1, put) * 100 + x.log(0, 0) * 10 + x.log(0, 1), 101);
        Edge.answers("P17 it can't be, the PART is there", Edge.made("a", "p21"),
                x -> x.years(1, put) * 100 + x.count(10) * 10 + x.shape(2, 0), 211);
        Edge.answers("P17 it can't be, there are as many as may be", Edge.made("sm1;a", "p11"),
                x -> x.years(1, put) * 100 + x.count(1), 201);
        Edge.answers("P17 JOINED onto itself can't be", Edge.made("a", "p30"),
                x -> x.years(1, seedOf(3, 3, 3)) * 10 + x.count(1), 21);
    }

    /** "below HASTE (0 .. 9; 3 at first)"; "for COATED one more" */
    private static void yearsByHaste() {
        for (int v = 0; v <= 9; v++) {
            int haste = v;
            for (int drawn = 0; drawn <= 9; drawn++) {
                long seed = seedOf(drawn, drawn + 1);
                UndoTrade x = Due.made("ar0;ak31", "p00;p10;p20;p30;p40;p50");
                x.haste(haste);
                x.years(1, seed);
                Due.due("P17 " + drawn + " below HASTE " + haste, x.count(1) == 5, drawn < haste);
                if (drawn < haste) {
                    int gone = draw(next(next(seed)), 6);
                    Due.due("P17 the one whose number was drawn", x.shape(gone, 0), -1);
                    Due.due("P17 LOG", x.log(0, 0) * 10 + x.log(0, 1), 55);
                }
            }
        }
        for (int drawn = 0; drawn < 6; drawn++) {
            int d = drawn;
            Edge.answers("P17 x of COATED", Edge.made("a", "p20"), x -> x.years(1, seedOf(2, 2, d)) * 10 + x.shape(2, 3),
                    20 + drawn + 1);
            Edge.answers("P17 x of PUT", Edge.shop("a"), x -> x.years(1, seedOf(0, 2, d)) * 10 + x.shape(2, 0), 10 + drawn);
            Edge.answers("P17 the PART", Edge.shop("a"), x -> x.years(1, seedOf(0, d, 2)) * 10 + x.shape(d, 0), 12);
        }
        Edge.answers("P17 x of JOINED", Edge.made("a", "p20;p50"), x -> x.years(1, seedOf(3, 2, 5)) * 10 + x.shape(2, 4), 35);
        Edge.answers("P17 HIDDEN", Edge.made("a", "p20;p50;j25"), x -> x.years(1, seedOf(4, 2, 5)) * 10 + x.shape(2, 5), 41);
        Edge.answers("P17 TURNED", Edge.made("a", "p20"), x -> x.years(1, seedOf(1, 2, 5)) * 10 + x.deed(1, 2), 20);
        Edge.answers("P17 the DEEDS that can be TAKEN BACK, in the list's order",
                Edge.then(Edge.made("a", "p00;t0;p10;p20"), x -> x.haste(9)), x -> {
                    long seed = seedOf(0, 9);
                    while (draw(next(next(seed)), 3) != 1 || draw(next(seed), 10) == 9) {
                        seed++;
                    }
                    return x.years(1, seed) * 100 + x.shape(1, 0) * 10 + x.count(1);
                }, 493);
    }

    /** "(64 bits, going round)", "without sign": each seed is as told by hand on another object. */
    private static void yearsSeeds() {
        long[] seeds = {0, 1, -1, Long.MIN_VALUE, Long.MAX_VALUE, 1L << 32, 1L << 33, -(1L << 33), 1442695040888963407L};
        for (long seed : seeds) {
            UndoTrade x = Due.shop("a");
            UndoTrade y = Due.shop("a");
            x.years(20, seed);
            long state = seed;
            for (int i = 0; i < 20; i++) {
                state = next(state);
                if (draw(state, 10) < 3) {
                    int free = y.all(0);
                    if (free == 0) {
                        continue;
                    }
                    state = next(state);
                    for (int passed = draw(state, Integer.bitCount(free)); passed > 0; passed--) {
                        free &= free - 1;
                    }
                    y.undoes(Integer.numberOfTrailingZeros(free));
                    continue;
                }
                long part = next(next(state));
                int sort = draw(next(state), 5);
                state = next(part);
                y.make(sort, draw(part, 6), draw(state, 6) + (sort == 2 ? 1 : 0));
            }
            Due.due("P17 DEEDS by the seed " + seed, x.count(1), y.count(1));
            for (int i = 0; i < 12; i++) {
                Due.due("P17 DEED", x.deed(i, 0) * 100 + x.deed(i, 1) * 10 + x.deed(i, 2),
                        y.deed(i, 0) * 100 + y.deed(i, 1) * 10 + y.deed(i, 2));
                Due.due("P17 LOG", x.log(i, 0) * 100 + x.log(i, 1), y.log(i, 0) * 100 + y.log(i, 1));
            }
            Due.due("P17 LEARNT", Due.apprentice(x, 0, 0), Due.apprentice(y, 0, 0));
        }
    }

    // ---- promise 18 ----

    /** "NONE: none." */
    private static void undoNone() {
        Edge.refused("P18 no WORKSHOP", Edge::textsAlone, -1, x -> x.undo());
        Edge.refused("P18 no ACT", Edge.shop("a"), -1, x -> x.undo());
        Edge.refused("P18 what was refused is none", Edge.then(Edge.shop("a"), x -> x.make(1, 0, 0)), -1, x -> x.undo());
        Edge.refused("P18 LAW, HASTE, SEEN, an IMAGE are none", Edge.then(Edge.shop("a"), x -> {
            Due.tell(x, 1, "y:1");
            x.law(0);
            x.haste(1);
            x.seen(0, 1, true);
            x.image();
        }), -1, x -> x.undo());
        Edge.refused("P18 behind the last", Edge.then(Edge.made("a", "p00"), x -> x.undo()), -1, x -> x.undo());
        Edge.refused("P18 behind BACK", Edge.then(Edge::busy, x -> x.back()), -1, x -> x.undo());
        Edge.refused("P18 of another WORKSHOP", Edge.then(Edge::busy, x -> Due.tell(x, 0, "a")), -1, x -> x.undo());
        Edge.answers("P18 one", Edge.made("a", "p00"), x -> x.undo() * 10 + x.count(1) + x.count(6) + x.count(10), 0);
    }

    /** "the latest 40 can be UNDONE one by one" */
    private static void undoForty() {
        for (int acts : new int[] {39, 40, 41, 79, 80, 81, 130}) {
            UndoTrade x = Due.shop("a");
            for (int i = 0; i < acts; i++) {
                x.enter(0);
            }
            int can = Math.min(acts, 40);
            Due.due("P18 they can be " + acts, x.count(11), can);
            for (int left = can - 1; left >= 0; left--) {
                Due.due("P18 how many still can be", x.undo(), left);
                Due.due("P18 TIME, too", x.count(6), acts - can + left);
                Due.due("P18 as it was", Due.apprentice(x, 0, 1), (acts - can + left) % 2 == 0 ? 1 : 0);
            }
            Due.due("P18 none", x.undo(), -1);
            Due.due("P18 nothing changed", x.count(6), acts - can);
        }
        UndoTrade x = Due.shop("a");
        for (int round = 0; round < 7; round++) {
            for (int i = 0; i < 30; i++) {
                x.enter(0);
            }
            int can = x.count(11);
            Due.due("P18 as many as came, 40 at most", can, Math.min(40, round * 15 + 30));
            for (int i = 1; i <= 15; i++) {
                Due.due("P18 some are UNDONE, others come", x.undo(), can - i);
            }
        }
        Due.due("P18 TIME", x.count(6), 7 * 15);
    }

    /** Each act is undone: what it changed is as before, "(TIME, LOG, too)". */
    private static void undoWhat() {
        Edge.Call[] acts = {x -> x.make(0, 3, 1), x -> x.undoes(7), x -> x.takes(1, 6), x -> x.enter(1), x -> x.forgets(0, 1),
            x -> x.sell(), x -> x.years(1, 7), x -> x.years(1, seedOf(0, 3))};
        for (int i = 0; i < acts.length; i++) {
            Edge.Call act = acts[i];
            Edge.changesNothing("P18 the act " + i + " UNDONE", Edge.then(Edge::busy, x -> x.undo()), x -> {
                long done = act.of(x);
                return done < 0 ? -1 : x.undo();
            });
            Edge.answers("P18 the act " + i + " was one", Edge.then(Edge::busy, x -> x.undo()), x -> {
                act.of(x);
                return x.count(11);
            }, 12);
        }
        Edge.answers("P18 of a MAKING the last alone", Edge.made("a", "p00;p10;t0"), x -> x.undo() * 10 + x.count(1), 22);
        Edge.answers("P18 of YEARS the last alone", Edge.shop("a"), x -> x.years(20, 3) * 0 + x.undo() * 100 + x.count(6), 1919);
    }

    // ---- promise 19 ----

    /** "NONE: no such ones." */
    private static void logNoSuch() {
        Edge.Script three = Edge.made("a", "p00;p10;t0");
        for (int i : Edge.outside(0, 2)) {
            Edge.refused("P19 log(" + i + ", 0)", three, -1, x -> x.log(i, 0));
            Edge.answers("P19 log(" + i + ", 1)", three, x -> x.log(i, 1), -1);
        }
        for (int what : Edge.outside(0, 1)) {
            Edge.refused("P19 log(0, " + what + ")", three, -1, x -> x.log(0, what));
        }
        Edge.refused("P19 empty", Edge.shop("a"), -1, x -> x.log(0, 0), x -> x.log(0, 1));
        Edge.refused("P19 no WORKSHOP", Edge::nothing, -1, x -> x.log(0, 0));
        Edge.answers("P19 the latest", three, x -> x.log(0, 0) * 10 + x.log(0, 1), 13);
        Edge.answers("P19 the first", three, x -> x.log(2, 0) * 10 + x.log(2, 1), 1);
        Edge.changesNothing("P19 what it asks", Edge::busy, x -> x.log(0, 0), x -> x.log(3, 1));
    }

    /** "(the latest 60)" */
    private static void logSixty() {
        for (int entries : new int[] {59, 60, 61, 119, 120, 121, 150}) {
            UndoTrade x = Due.shop("a");
            for (int entry = 0; entry < entries; entry++) {
                logOfSeven(x, entry);
            }
            int long60 = Math.min(60, entries);
            Due.due("P19 how long", x.count(10), long60);
            for (int i = 0; i < long60; i++) {
                int number = (entries - 1 - i) % 7;
                Due.due("P19 what", x.log(i, 0), number == 6 ? 10 : 0);
                Due.due("P19 how many DEEDS", x.log(i, 1), number == 6 ? 0 : number + 1);
            }
            Due.due("P19 one beyond", x.log(long60, 0), -1);
        }
        UndoTrade x = Due.shop("a");
        for (int entry = 0; entry < 100; entry++) {
            logOfSeven(x, entry);
        }
        for (int entries = 100; entries > 60; entries--) {
            Due.due("P19 UNDONE, what was lost is there", x.count(10), 60);
            for (int i = 0; i < 60; i += 59) {
                int number = (entries - 1 - i) % 7;
                Due.due("P19 UNDONE, what", x.log(i, 0), number == 6 ? 10 : 0);
                Due.due("P19 UNDONE, how many DEEDS", x.log(i, 1), number == 6 ? 0 : number + 1);
            }
            x.undo();
        }
    }

    /** Six parts are put, then the piece is sold: seven entries, which do not go round with sixty. */
    private static void logOfSeven(UndoTrade x, int entry) {
        if (entry % 7 == 6) {
            x.sell();
        } else {
            x.make(0, entry % 7, 0);
        }
    }

    /** "LOG: what (0 .. 4 DONE by SORT, 5 .. 9 TAKEN BACK, 10 SOLD; ROOM, FORGOTTEN not)" */
    private static void logWhat() {
        UndoTrade x = Due.made("ak31", "p00;p10;t0;c13;j01;h0");
        int[] done = {4, 3, 2, 1, 0, 0};
        for (int i = 0; i < 6; i++) {
            Due.due("P19 DONE", x.log(i, 0) * 10 + x.log(i, 1), done[i] * 10 + 6 - i);
        }
        int[] sorts = {4, 3, 2, 1, 0};
        for (int i = 0; i < 5; i++) {
            int size = i % 2 == 0 ? x.undoes(5 - i) : x.takes(0, 5 - i);
            Due.due("P19 TAKEN BACK", x.log(0, 0) * 10 + x.log(0, 1), (5 + sorts[i]) * 10 + size);
        }
        x.enter(0);
        x.forgets(0, 0);
        Due.due("P19 ROOM, FORGOTTEN not", x.count(10), 11);
        x.sell();
        Due.due("P19 SOLD", x.log(0, 0) * 10 + x.log(0, 1), 100);
        Due.due("P19 how long", x.count(10), 12);
    }

    // ---- promise 22 ----

    /** "NONE: no such MAKING, no WORKSHOP." */
    private static void performRefused() {
        for (int making : Edge.outside(0, 1)) {
            Edge.refused("P22 perform(" + making + ")", Edge::busy, -1, x -> x.perform(making));
        }
        Edge.refused("P22 there is none", Edge.shop("a"), -1, x -> x.perform(0));
        Edge.refused("P22 no WORKSHOP", Edge::textsAlone, -1, x -> x.perform(0));
        Edge.answers("P22 the fourth", x -> {
            Due.tell(x, 0, "a");
            for (int i = 0; i < 4; i++) {
                Due.tell(x, 2, "p0" + i + ";p1" + i);
            }
        }, x -> x.perform(3) * 10 + x.shape(1, 0), 23);
    }

    /** "its DEEDS as ACTS, up to there" */
    private static void performUpTo() {
        Edge.refused("P22 the first can't be", Edge::busy, 0, x -> x.perform(0));
        Edge.answers("P22 all", Edge.then(Edge.shop("a"), x -> Due.tell(x, 2, "p00;t0;t0")),
                x -> x.perform(0) * 100 + x.count(6) * 10 + x.count(11), 333);
        Edge.answers("P22 those ahead of the first that can't be", Edge.then(Edge.shop("a"), x -> Due.tell(x, 2, "p00;t1;t0")),
                x -> x.perform(0) * 100 + x.count(1) * 10 + x.count(6), 111);
        Edge.answers("P22 up to how many may be", Edge.then(Edge.shop("sm2;a"), x -> Due.tell(x, 2, "p00;t0;t0")),
                x -> x.perform(0) * 100 + x.count(1) * 10 + x.count(6), 222);
        String sixteen = "p00;p10;p20;p30;p40;p50;t0;t1;t2;t3;t4;t5;t0;t1;t2;t3";
        Edge.answers("P22 twelve of sixteen", Edge.then(Edge.shop("a"), x -> Due.tell(x, 2, sixteen)),
                x -> x.perform(0) * 10000 + x.count(1) * 100 + x.count(10), 121212);
        for (String bad : new String[] {"p60", "p99", "c00", "c01", "t0", "j00", "j01", "h0", "h9", "t7"}) {
            Edge.refused("P22 it can't be " + bad, Edge.then(Edge.shop("a"), x -> Due.tell(x, 2, bad)), 0, x -> x.perform(0));
        }
        Edge.answers("P22 from as it is", Edge.then(Edge.made("a", "p00"), x -> Due.tell(x, 2, "t0;t0")),
                x -> x.perform(1) * 10 + x.count(1), 23);
    }

    // ---- the last time ----

    /** TIME 9998, the piece p00 t0 p10, two makings; 508 calls. */
    private static void late(UndoTrade x) {
        x.feed(0x616b3331, 0x3b617230, 0x6b333100, 0, 0); // ak31;ar0k31
        x.text(0);
        x.feed(0x7030303b, 0x74303b70, 0x31300000, 0, 0); // p00;t0;p10
        x.text(2);
        x.feed(0x7032303b, 0x70333000, 0, 0, 0); // p20;p30
        x.text(2);
        for (int i = 0; i < 499; i++) {
            x.years(20, i);
        }
        x.years(14, 2);
        x.sell();
        x.perform(0);
    }

    /** TIME 9999; 509 calls. */
    private static void last(UndoTrade x) {
        late(x);
        x.enter(1);
    }

    /** "9,999 at most: none can be then": each act can be at 9998, none at 9999. */
    private static void lastTime() {
        Edge.answers("late: TIME", EdgeActTest::late, x -> x.count(6), 9998);
        Edge.answers("late: DEEDS", EdgeActTest::late, x -> x.count(1), 3);
        Edge.answers("late: the last TIME", EdgeActTest::last, x -> x.count(6), 9999);
        atLast("P11 beyond the last TIME", 4, x -> x.make(0, 2, 0));
        atLast("P12 beyond the last TIME", 2, x -> x.undoes(2));
        atLast("P13 beyond the last TIME", 2, x -> x.takes(0, 2));
        atLast("P14 beyond the last TIME", 0, x -> x.enter(0));
        atLast("P15 beyond the last TIME", 15, x -> x.forgets(0, 4));
        atLast("P16 beyond the last TIME", 3, x -> x.sell());
        atLast("P17 beyond the last TIME", 9999, x -> x.years(1, 1));
        Edge.answers("P18 the last can be UNDONE", EdgeActTest::last, x -> x.undo() * 10000 + x.count(6), 399998);
        Edge.answers("P18 and an ACT be again", EdgeActTest::last, x -> x.undo() * 10 + x.make(0, 2, 0), 394);
        Edge.answers("P43 an IMAGE", EdgeActTest::last, x -> x.image(), 9999);
        Edge.answers("P44 BACK", EdgeActTest::last, x -> x.image() * 0 + x.back(), 9999);
        Edge.answers("P45 TIME", EdgeActTest::last, x -> x.count(6), 9999);
    }

    private static void atLast(String sentence, long due, Edge.Call act) {
        Edge.answers(sentence + ": not yet", EdgeActTest::late, act, due);
        Edge.answers(sentence + ": it was an ACT", EdgeActTest::late, x -> act.of(x) * 0 + x.count(6), 9999);
        Edge.refusedLate(sentence, EdgeActTest::last, -1, act);
    }

    /** "(Beyond the last TIME: not begun.)" */
    private static void lastTimeOfYears() {
        Edge.refusedLate("P17 one too many", EdgeActTest::late, -1, x -> x.years(2, 1));
        Edge.refusedLate("P17 nineteen too many", EdgeActTest::late, -1, x -> x.years(20, 1));
        Edge.Script far = x -> {
            x.feed(0x61000000, 0, 0, 0, 0);
            x.text(0);
            for (int i = 0; i < 499; i++) {
                x.years(20, i);
            }
        };
        Edge.answers("P17 up to the last TIME", far, x -> x.years(19, 1), 9999);
        Edge.refusedLate("P17 one too many of twenty", far, -1, x -> x.years(20, 1));
    }

    /** "DO: its DEEDS as ACTS, up to there": beyond the last time none can be. */
    private static void lastTimeOfPerform() {
        Edge.answers("P22 up to the last TIME", EdgeActTest::late, x -> x.perform(1) * 10 + x.count(1), 14);
        Edge.answers("P22 the last TIME then", EdgeActTest::late, x -> x.perform(1) * 0 + x.count(6), 9999);
        Edge.refusedLate("P22 none at the last TIME", EdgeActTest::last, 0, x -> x.perform(1));
    }

    /** "in RUN, ALIKE it does not matter" */
    private static void lastTimeDoesNotMatter() {
        Edge.refusedLate("P21 all can be", EdgeActTest::last, -1, x -> x.run(1, 0));
        Edge.refusedLate("P21 how many DEEDS then", EdgeActTest::last, 5, x -> x.run(1, 1));
        Edge.refusedLate("P23 like itself", EdgeActTest::last, 1, x -> x.alike(1, 1));
        Edge.refusedLate("P23 unlike", EdgeActTest::last, 0, x -> x.alike(0, 1));
    }
}
