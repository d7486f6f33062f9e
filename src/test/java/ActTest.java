/** Promises 6 to 23: deeds done and taken back, apprentices, years, the log, makings. */
public final class ActTest {
    public static void main(String[] args) {
        noWorkshop();
        puts();
        turnsAndCoats();
        joins();
        hides();
        limit();
        takingBack();
        learning();
        roomAndForgetting();
        selling();
        lawAndHaste();
        undoing();
        logging();
        years();
        makings();
        alike();
        Due.close();
    }

    private static void makes(UndoTrade x, int[]... calls) {
        for (int[] c : calls) {
            Due.due("make(" + c[0] + ", " + c[1] + ", " + c[2] + ")", x.make(c[0], c[1], c[2]), c[3]);
        }
    }

    private static int[] m(int sort, int part, int x, int due) {
        return new int[] {sort, part, x, due};
    }

    private static void noWorkshop() {
        UndoTrade x = new UndoTrade();
        Due.tell(x, 2, "p00");
        Due.tell(x, 1, "y:1");
        Due.due("law(0)", x.law(0), true);
        Due.due("haste(0)", x.haste(0), true);
        Due.due("perform", x.perform(0), -1);
        Due.due("run", x.run(0, 0), -1000000);
        Due.due("alike", x.alike(0, 0), -1);
        Due.due("step", x.step(0, 0, 0), 0);
        Due.due("years", x.years(1, 1), -1);
        Due.due("make", x.make(0, 0, 0), -1);
        Due.due("image", x.image(), -1);
        Due.due("count(7)", x.count(7), 0);
    }

    private static void puts() {
        UndoTrade x = Due.shop("a");
        makes(x, m(0, -1, 0, -1), m(0, 6, 0, -1), m(0, 0, -1, -1), m(0, 0, 10, -1), m(-1, 0, 0, -1), m(5, 0, 0, -1),
                m(0, 0, 9, 1), m(0, 5, 0, 2), m(0, 0, 9, -1), m(0, 5, 3, -1));
        Due.due("kind", x.shape(0, 0), 9);
        Due.due("kind", x.shape(5, 0), 0);
        Due.due("shape(0, 6)", x.shape(0, 6), -1);
        Due.due("shape(0, -1)", x.shape(0, -1), -1);
        Due.due("shape(1, 0)", x.shape(1, 0), -1);
        Due.due("shape(-1, 0)", x.shape(-1, 0), -1);
        Due.due("shape(6, 0)", x.shape(6, 0), -1);
        int[] blank = {0, 0, 0, 0, 9, 0};
        for (int what = 0; what < 6; what++) {
            Due.due("shape(5, " + what + ")", x.shape(5, what), blank[what]);
        }
        Due.due("time of what was done alone", x.count(6), 2);
    }

    private static void turnsAndCoats() {
        UndoTrade x = Due.shop("a");
        makes(x, m(1, 0, 0, -1), m(2, 0, 1, -1), m(0, 0, 0, 1), m(1, 0, 77, 2), m(1, 0, -5, 3), m(1, 0, 0, 4),
                m(1, 0, 0, -1), m(2, 0, 0, -1), m(2, 0, 10, -1), m(2, 0, 9, 5), m(2, 0, 1, 6), m(2, 0, 1, 7),
                m(2, 0, 1, -1));
        Due.due("turns", x.shape(0, 1), 3);
        Due.due("coats", x.shape(0, 2), 3);
        Due.due("colour", x.shape(0, 3), 1);
        Due.due("x of a turn", x.deed(1, 2), 0);
        Due.due("x of a coat", x.deed(4, 2), 9);
        Due.due("deed(7, 0)", x.deed(7, 0), -1);
        Due.due("deed(-1, 0)", x.deed(-1, 0), -1);
        Due.due("deed(0, 3)", x.deed(0, 3), -1);
        Due.due("deed(0, -1)", x.deed(0, -1), -1);
    }

    private static void joins() {
        UndoTrade x = Due.made("a", "p00;p10;p20;p30");
        makes(x, m(3, 0, 0, -1), m(3, 0, 4, -1), m(3, 4, 0, -1), m(3, 0, -1, -1), m(3, 0, 9, -1), m(3, 0, 1, 5),
                m(3, 0, 2, -1), m(3, 1, 0, -1), m(3, 1, 2, 6), m(3, 2, 0, -1), m(3, 2, 1, -1), m(3, 2, 3, 7),
                m(1, 0, 0, -1), m(1, 2, 0, -1), m(1, 3, 0, 8), m(2, 3, 1, -1), m(2, 0, 1, 9));
        Due.due("onto", x.shape(0, 4), 1);
        Due.due("upon(1)", x.upon(1), 1);
        Due.due("upon(2)", x.upon(2), 2);
        Due.due("upon(0)", x.upon(0), 0);
        Due.due("upon(4)", x.upon(4), -1);
        Due.due("upon(-1)", x.upon(-1), -1);
        Due.due("high", x.all(3), 4);
        Due.due("loose", x.all(4), 8);
        Due.due("there", x.all(5), 15);
        Due.due("the join of 1 is taken back", x.undoes(5), 8);
        makes(x, m(1, 1, 0, 9), m(3, 2, 1, -1), m(3, 3, 0, 10));
        Due.due("high", x.all(3), 4);
        Due.due("loose", x.all(4), 2);
    }

    private static void hides() {
        UndoTrade x = Due.made("a", "p00;p10;p20");
        makes(x, m(4, 0, 0, -1), m(3, 0, 1, 4), m(4, 1, 0, -1), m(3, 1, 2, 5), m(4, 1, 0, -1), m(4, 0, 8, 6),
                m(4, 0, 0, -1), m(2, 0, 1, -1), m(1, 0, 0, -1), m(3, 2, 0, -1));
        Due.due("hidden", x.shape(0, 5), 1);
        Due.due("not", x.shape(1, 5), 0);
        Due.due("x of a hiding", x.deed(5, 2), 0);
        UndoTrade y = Due.made("a", "p00;p10;p20;j01;h0");
        makes(y, m(3, 2, 0, -1), m(3, 2, 1, 6), m(2, 1, 1, -1));
        Due.due("needs nothing that is on the other one", y.needs(5, 0), 6);
    }

    private static void limit() {
        UndoTrade x = Due.shop("sm2;a");
        makes(x, m(0, 0, 0, 1), m(0, 1, 0, 2), m(0, 2, 0, -1), m(1, 0, 0, -1));
        Due.due("undoes(0)", x.undoes(0), 1);
        makes(x, m(1, 1, 0, 2), m(1, 1, 0, -1));
        Due.due("count(7)", x.count(7), 2);
        UndoTrade y = Due.made("a", "p00;p10;p20;p30;p40;p50;t0;t1;t2;t3;t4;t5");
        makes(y, m(1, 0, 0, -1));
        Due.due("twelve", y.count(1), 12);
    }

    private static void takingBack() {
        UndoTrade x = Due.made("ak1r0", "p00;p10;t0;c13;j01;c09;h0");
        for (int d = 0; d < 6; d++) {
            Due.due("undoes(" + d + ")", x.undoes(d), -1);
        }
        Due.due("undoes(7)", x.undoes(7), -1);
        Due.due("undoes(-1)", x.undoes(-1), -1);
        Due.due("takes(0, 6): unknown", x.takes(0, 6), -1);
        Due.due("undoes(6)", x.undoes(6), 6);
        Due.due("nobody in the room", Due.apprentice(x, 0, 0), 1);
        Due.due("undoes(4)", x.undoes(4), 5);
        Due.due("order kept", x.deed(4, 0), 2);
        Due.due("order kept", x.deed(4, 2), 9);
        Due.due("takes(0, 0): needed", x.takes(0, 0), -1);
        Due.due("undoes(3)", x.undoes(3), 4);
        Due.due("takes(0, 1)", x.takes(0, 1), 3);
        Due.due("takes(1, 0)", x.takes(1, 0), -1);
        Due.due("takes(-1, 0)", x.takes(-1, 0), -1);
        Due.due("takes(0, 3)", x.takes(0, 3), -1);
        Due.due("takes(0, -1)", x.takes(0, -1), -1);
        Due.due("the one of part 0 stays", x.deed(0, 1), 0);
        Due.due("an earlier turn is needed", Due.made("a", "p00;t0;t0").undoes(1), -1);
        Due.due("an earlier coat is needed", Due.made("a", "p00;c01;c02").undoes(1), -1);
        Due.due("a turn is not by a coat", Due.made("a", "p00;t0;c02").undoes(1), 2);
        Due.due("a join is not by another one onto it", Due.made("a", "p00;p10;p20;j01;j20").undoes(3), 4);
        Due.due("a coat of the one joined is not by its join", Due.made("a", "p00;p10;c01;j01").undoes(2), 3);
        Due.due("a turn of the other one is not by the join", Due.made("a", "p00;p10;t1;j01").undoes(2), 3);
    }

    private static void learning() {
        UndoTrade x = Due.made("ak2r1;ar0;ak8;ak16r0", "p00;p10;t0");
        Due.due("he need not be in the room", x.takes(0, 2), 2);
        int[] due = {2, 0, 10, 16};
        for (int a = 0; a < 4; a++) {
            Due.due("knows " + a, Due.apprentice(x, a, 0), due[a]);
        }
        Due.due("known in the room", x.all(6), 10);
        x.enter(0);
        x.enter(3);
        x.undoes(1);
        int[] then = {2, 0, 11, 17};
        for (int a = 0; a < 4; a++) {
            Due.due("knows then " + a, Due.apprentice(x, a, 0), then[a]);
        }
        Due.due("known in the room", x.all(6), 27);
        Due.due("out of the room, he takes: those within learn", x.takes(3, 0), 0);
        Due.due("all(7)", x.all(7), -1);
        Due.due("all(-1)", x.all(-1), -1);
    }

    private static void roomAndForgetting() {
        UndoTrade x = Due.shop("ak5;ar0");
        Due.due("enter(0)", x.enter(0), 0);
        Due.due("enter(1)", x.enter(1), 1);
        Due.due("enter(0)", x.enter(0), 1);
        Due.due("enter(2)", x.enter(2), -1);
        Due.due("enter(-1)", x.enter(-1), -1);
        Due.due("forgets(0, 1)", x.forgets(0, 1), -1);
        Due.due("forgets(0, 2)", x.forgets(0, 2), 1);
        Due.due("forgets(0, 0)", x.forgets(0, 0), 0);
        Due.due("forgets(0, 0)", x.forgets(0, 0), -1);
        Due.due("forgets(0, 5)", x.forgets(0, 5), -1);
        Due.due("forgets(0, -1)", x.forgets(0, -1), -1);
        Due.due("forgets(0, 32)", x.forgets(0, 32), -1);
        Due.due("forgets(2, 0)", x.forgets(2, 0), -1);
        Due.due("forgets(-1, 0)", x.forgets(-1, 0), -1);
        Due.due("time", x.count(6), 5);
        Due.due("no log of these", x.count(10), 0);
        Due.due("undo", x.undo(), 4);
        Due.due("he knows again", Due.apprentice(x, 0, 0), 1);
        x.undo();
        x.undo();
        Due.due("he is out again", Due.apprentice(x, 0, 1), 0);
    }

    private static void selling() {
        UndoTrade x = Due.made("a", "p00;t0;p10");
        Due.due("sell", x.sell(), 3);
        Due.due("nobody learns", Due.apprentice(x, 0, 0), 0);
        Due.due("sell nothing", x.sell(), -1);
        Due.due("time", x.count(6), 4);
        Due.due("log", x.log(0, 0), 10);
        Due.due("log", x.log(0, 1), 0);
        Due.due("undo", x.undo(), 3);
        Due.due("the deeds again", x.deed(1, 0), 1);
        Due.due("log", x.log(0, 0), 0);
    }

    private static void lawAndHaste() {
        UndoTrade x = Due.made("a", "p00");
        Due.due("law(0)", x.law(0), false);
        Due.due("law(-1)", x.law(-1), true);
        Due.due("law(-2)", x.law(-2), false);
        Due.tell(x, 1, "y:7");
        Due.due("not yet", x.cost(0, 0, 5), 1);
        Due.due("law(0)", x.law(0), true);
        Due.due("law(0)", x.law(0), true);
        Due.due("count(5)", x.count(5), 0);
        Due.due("by it", x.cost(0, 0, 5), 7);
        Due.due("law(1)", x.law(1), false);
        Due.due("law(-1)", x.law(-1), true);
        Due.due("none", x.cost(0, 0, 5), 1);
        Due.due("haste(3)", x.haste(3), false);
        Due.due("haste(10)", x.haste(10), false);
        Due.due("haste(-1)", x.haste(-1), false);
        Due.due("haste(9)", x.haste(9), true);
        Due.due("count(8)", x.count(8), 9);
        Due.due("no acts", x.count(11), 1);
    }

    private static void undoing() {
        UndoTrade x = Due.shop("a");
        Due.due("undo nothing", x.undo(), -1);
        for (int i = 0; i < 45; i++) {
            x.enter(0);
        }
        Due.due("the latest forty", x.count(11), 40);
        Due.due("time", x.count(6), 45);
        for (int i = 39; i >= 0; i--) {
            Due.due("undo", x.undo(), i);
        }
        Due.due("undo no more", x.undo(), -1);
        Due.due("time", x.count(6), 5);
        Due.due("room", Due.apprentice(x, 0, 1), 0);
        Due.due("a refused act is none", x.make(1, 0, 0), -1);
        Due.due("undo", x.undo(), -1);
    }

    private static void logging() {
        UndoTrade x = Due.shop("a");
        Due.due("log(0, 0)", x.log(0, 0), -1);
        for (int i = 0; i < 35; i++) {
            x.make(0, i % 6, 0);
            x.undoes(0);
        }
        x.make(0, 3, 1);
        x.make(1, 3, 0);
        Due.due("the latest sixty", x.count(10), 60);
        Due.due("log(0, 0)", x.log(0, 0), 1);
        Due.due("log(0, 1)", x.log(0, 1), 2);
        Due.due("log(2, 0)", x.log(2, 0), 5);
        Due.due("log(2, 1)", x.log(2, 1), 0);
        Due.due("log(59, 0)", x.log(59, 0), 0);
        Due.due("log(60, 0)", x.log(60, 0), -1);
        Due.due("log(-1, 0)", x.log(-1, 0), -1);
        Due.due("log(0, 2)", x.log(0, 2), -1);
        Due.due("log(0, -1)", x.log(0, -1), -1);
        x.undo();
        Due.due("what the log had lost is there again", x.count(10), 60);
        Due.due("log(59, 0)", x.log(59, 0), 5);
        for (int i = 0; i < 39; i++) {
            x.undo();
        }
        Due.due("count(10)", x.count(10), 32);
    }

    /** What the document says of a year, told by hand on another object. */
    private static void years() {
        for (long seed = -3; seed < 40; seed++) {
            for (int haste = 0; haste < 10; haste += 3) {
                UndoTrade x = Due.shop("sm9;a;ar0");
                UndoTrade y = Due.shop("sm9;a;ar0");
                x.haste(haste);
                Due.due("years", x.years(20, seed * 77777777777L), 20);
                state = seed * 77777777777L;
                for (int i = 0; i < 20; i++) {
                    yearByHand(y, haste);
                }
                Due.due("deeds", x.count(1), y.count(1));
                for (int d = 0; d < y.count(1); d++) {
                    for (int what = 0; what < 3; what++) {
                        Due.due("deed", x.deed(d, what), y.deed(d, what));
                    }
                }
                Due.due("log", x.count(10), y.count(10));
                Due.due("knows", Due.apprentice(x, 0, 0), Due.apprentice(y, 0, 0));
                Due.due("out of the room", Due.apprentice(x, 1, 0), 0);
                Due.due("each can be undone", x.count(11), 20);
            }
        }
        UndoTrade x = Due.shop("a");
        Due.due("years(0)", x.years(0, 1), -1);
        Due.due("years(21)", x.years(21, 1), -1);
        Due.due("years(-1)", x.years(-1, 1), -1);
        Due.due("years(1)", x.years(1, 1), 1);
    }

    private static void yearByHand(UndoTrade y, int haste) {
        if (draw(10) >= haste) {
            int sort = draw(5);
            int part = draw(6);
            y.make(sort, part, draw(6) + (sort == 2 ? 1 : 0));
            return;
        }
        int free = y.all(0);
        if (free != 0) {
            for (int passed = draw(Integer.bitCount(free)); passed > 0; passed--) {
                free &= free - 1;
            }
            y.undoes(Integer.numberOfTrailingZeros(free));
        }
    }

    private static long state;

    private static int draw(int j) {
        state = state * 6364136223846793005L + 1442695040888963407L;
        return (int) ((state >>> 33) % j);
    }

    private static void makings() {
        UndoTrade x = Due.made("sm4;a", "p00;p10;j01");
        Due.tell(x, 2, "t1;t1;t1");
        Due.tell(x, 2, "c00;p20");
        Due.tell(x, 2, "p29");
        Due.due("run(0, 0)", x.run(0, 0), 0);
        Due.due("run(0, 1)", x.run(0, 1), 3);
        Due.due("run(1, 0): full", x.run(1, 0), 1);
        Due.due("run(1, 1)", x.run(1, 1), 4);
        Due.due("run(2, 0): no such colour", x.run(2, 0), 0);
        Due.due("run(3, 0)", x.run(3, 0), -1);
        Due.due("run(3, 1)", x.run(3, 1), 4);
        Due.due("run(4, 0)", x.run(4, 0), -1000000);
        Due.due("run(-1, 0)", x.run(-1, 0), -1000000);
        Due.due("run(0, 2)", x.run(0, 2), -1000000);
        Due.due("run(0, -1)", x.run(0, -1), -1000000);
        Due.due("nothing changed", x.count(1), 3);
        Due.due("perform(1)", x.perform(1), 1);
        Due.due("as acts", x.count(6), 4);
        Due.due("as acts", x.count(11), 4);
        Due.due("log", x.log(0, 0), 1);
        Due.due("perform(3)", x.perform(3), 0);
        Due.due("perform(4)", x.perform(4), -1);
        Due.due("perform(-1)", x.perform(-1), -1);
    }

    private static void alike() {
        Object[][] cases = {
            {"p00;p10;t0", "p10;p00;t0", 1}, {"p00;c01;c02", "p00;c02;c01", 0}, {"p00;c01;c02", "p00;c01;c03", 0},
            {"p00;c01;t0", "p00;t0;c01", 1}, {"p00", "p01", 0},
            {"p00;p10;c01;c12", "p00;p10;c12;c01", 1}, {"p00;p10;c01;c12", "p00;p10;c02;c11", 0},
            {"p00", "p10", 0}, {"p00;t0", "p00;t0;t0", 0},
            {"p00;p10;j01", "p00;p10;j10", 0}, {"p00;p10;j01;h0", "p00;p10;j01", 0}, {"p00;c00;t0", "p00", 1},
            {"t0", "c11", 1}, {"p00;c01;c01", "p00;c01", 0}, {"p00;p10;p20;j01", "p00;p10;p20;j02", 0},
        };
        for (Object[] c : cases) {
            UndoTrade x = Due.shop("a");
            Due.tell(x, 2, (String) c[0]);
            Due.tell(x, 2, (String) c[1]);
            Due.due("alike " + c[0] + " " + c[1], x.alike(0, 1), (Integer) c[2]);
            Due.due("alike itself", x.alike(0, 0), 1);
            Due.due("alike(0, 2)", x.alike(0, 2), -1);
            Due.due("alike(2, 0)", x.alike(2, 0), -1);
            Due.due("alike(-1, 0)", x.alike(-1, 0), -1);
        }
        UndoTrade x = Due.made("sm2;a", "p00;p10;t0");
        Due.tell(x, 2, "p10;p00;t1");
        Due.due("from nothing, up to how many there may be", x.alike(0, 1), 1);
    }
}
