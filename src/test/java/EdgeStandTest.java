import java.util.NoSuchElementException;

/** The boundary cases of promises 6 to 10 and 41: apprentices, parts, deeds, the law that holds, haste. */
public final class EdgeStandTest {
    public static void main(String[] args) {
        apprenticeNoSuch();
        apprenticeAsNow();
        shapeNoSuch();
        shapeNone();
        shapeAtMost();
        deedNoSuch();
        deedWithoutX();
        lawNoSuch();
        lawNone();
        hasteBounds();
        hasteIsSo();
        uponNotThere();
        uponNone();
        Due.close();
    }

    // ---- promise 6 ----

    /** "NoSuchElementException: no such ones." */
    private static void apprenticeNoSuch() {
        for (int a : Edge.outside(0, 2)) {
            Edge.refused("P6 apprentice(" + a + ", 0)", Edge::busy, -2, x -> Due.apprentice(x, a, 0));
            Edge.refused("P6 apprentice(" + a + ", 1)", Edge::busy, -2, x -> Due.apprentice(x, a, 1));
        }
        for (int what : Edge.outside(0, 1)) {
            Edge.refused("P6 apprentice(0, " + what + ")", Edge::busy, -2, x -> Due.apprentice(x, 0, what));
            Edge.refused("P6 apprentice(2, " + what + ")", Edge::busy, -2, x -> Due.apprentice(x, 2, what));
        }
        for (int n = 1; n <= 4; n++) {
            String text = "ak9;ak9;ak9;ak9".substring(0, 4 * n - 1);
            int last = n - 1;
            Edge.answers("P6 the last of " + n, Edge.shop(text), x -> Due.apprentice(x, last, 0), 9);
            Edge.answers("P6 one beyond " + n, Edge.shop(text), x -> Due.apprentice(x, last + 1, 0), -2);
        }
        Edge.answers("P6 that very exception", Edge::busy, x -> {
            try {
                return x.apprentice(3, 0);
            } catch (RuntimeException e) {
                return e.getClass() == NoSuchElementException.class ? -2 : -3;
            }
        }, -2);
        Edge.changesNothing("P6 what it asks", Edge::busy, x -> Due.apprentice(x, 0, 0), x -> Due.apprentice(x, 2, 1));
    }

    /** ".. as now" */
    private static void apprenticeAsNow() {
        UndoTrade x = Due.made("ak0r0;ak31r1", "p00;t0");
        Due.due("P6 none", Due.apprentice(x, 0, 0), 0);
        Due.due("P6 all", Due.apprentice(x, 1, 0), 31);
        Due.due("P6 out", Due.apprentice(x, 0, 1), 0);
        Due.due("P6 in", Due.apprentice(x, 1, 1), 1);
        x.enter(0);
        Due.due("P6 in now", Due.apprentice(x, 0, 1), 1);
        x.undoes(1);
        Due.due("P6 learnt", Due.apprentice(x, 0, 0), 2);
        x.forgets(1, 4);
        Due.due("P6 forgotten", Due.apprentice(x, 1, 0), 15);
        x.undo();
        Due.due("P6 undone", Due.apprentice(x, 1, 0), 31);
        x.undo();
        Due.due("P6 undone", Due.apprentice(x, 0, 0), 0);
    }

    // ---- promise 7 ----

    /** "NONE: it is not there, no such what." */
    private static void shapeNoSuch() {
        for (int part : Edge.outside(0, 2)) {
            for (int what = 0; what < 6; what++) {
                int w = what;
                Edge.answers("P7 shape(" + part + ", " + what + ")", Edge::busy, x -> x.shape(part, w), -1);
            }
            Edge.refused("P7 shape(" + part + ", 4)", Edge::busy, -1, x -> x.shape(part, 4));
        }
        for (int what : Edge.outside(0, 5)) {
            Edge.refused("P7 shape(0, " + what + ")", Edge::busy, -1, x -> x.shape(0, what));
        }
        Edge.answers("P7 taken back", Edge.made("a", "p03"), x -> x.undoes(0) * 10 + x.shape(0, 0), -1);
        Edge.answers("P7 sold", Edge.made("a", "p03"), x -> x.sell() * 10 + x.shape(0, 0), 9);
        Edge.answers("P7 undone", Edge.made("a", "p03"), x -> x.undo() * 10 + x.shape(0, 0), -1);
        Edge.answers("P7 put again, of another KIND", Edge.made("a", "p03"),
                x -> x.undoes(0) + x.make(0, 0, 8) * 10 + x.shape(0, 0), 18);
    }

    /** "the last COLOUR (0: none)", "onto which it is JOINED (9: none)" */
    private static void shapeNone() {
        int[] due = {0, 0, 0, 0, 9, 0};
        for (int part = 0; part < 6; part++) {
            for (int what = 0; what < 6; what++) {
                int p = part;
                int w = what;
                Edge.answers("P7 a PART that was PUT alone", Edge.made("a", "p" + part + "0"), x -> x.shape(p, w), due[what]);
            }
        }
        Edge.answers("P7 JOINED onto the PART 0", Edge.made("a", "p00;p50;j50"), x -> x.shape(5, 4), 0);
        Edge.answers("P7 its JOIN taken back", Edge.made("a", "p00;p50;j50"), x -> x.undoes(2) * 10 + x.shape(5, 4), 29);
        Edge.answers("P7 the coat taken back", Edge.made("a", "p00;c07"), x -> x.undoes(1) * 10 + x.shape(0, 3), 10);
        Edge.answers("P7 the last coat taken back", Edge.made("a", "p00;c07;c08"), x -> x.undoes(2) * 10 + x.shape(0, 3), 27);
        Edge.answers("P7 shown again", Edge.made("a", "p00;p10;j01;h0"), x -> x.undoes(3) * 10 + x.shape(0, 5), 30);
    }

    private static void shapeAtMost() {
        UndoTrade x = Due.made("a", "p09;p15;t0;t0;t0;c01;c02;c09;j01;h0");
        int[] due = {9, 3, 3, 9, 1, 1};
        for (int what = 0; what < 6; what++) {
            Due.due("P7 shape(0, " + what + ")", x.shape(0, what), due[what]);
        }
        int[] other = {5, 0, 0, 0, 9, 0};
        for (int what = 0; what < 6; what++) {
            Due.due("P7 shape(1, " + what + ")", x.shape(1, what), other[what]);
        }
    }

    // ---- promise 8 ----

    /** "NONE: no such ones." */
    private static void deedNoSuch() {
        for (int deed : Edge.outside(0, 7)) {
            for (int what = 0; what < 3; what++) {
                int w = what;
                Edge.answers("P8 deed(" + deed + ", " + what + ")", Edge::busy, x -> x.deed(deed, w), -1);
            }
            Edge.refused("P8 deed(" + deed + ", 0)", Edge::busy, -1, x -> x.deed(deed, 0));
        }
        for (int what : Edge.outside(0, 2)) {
            Edge.refused("P8 deed(0, " + what + ")", Edge::busy, -1, x -> x.deed(0, what));
        }
        Edge.answers("P8 the last one", Edge::busy, x -> x.deed(7, 0) * 100 + x.deed(7, 1) * 10 + x.deed(7, 2), 24);
        Edge.answers("P8 no DEEDS", Edge.shop("a"), x -> x.deed(0, 0), -1);
        Edge.answers("P8 the twelfth", Edge.made("a", "p00;p10;p20;p30;p40;p50;t0;t1;t2;t3;t4;t5"), x -> x.deed(11, 1), 5);
        Edge.answers("P8 a thirteenth", Edge.made("a", "p00;p10;p20;p30;p40;p50;t0;t1;t2;t3;t4;t5"), x -> x.deed(12, 1), -1);
        Edge.answers("P8 the one behind has its number then", Edge.made("a", "p00;p17;t1"),
                x -> x.undoes(0) * 10 + x.deed(0, 2), 27);
        Edge.answers("P8 one beyond then", Edge.made("a", "p00;p17;t1"), x -> x.undoes(0) * 10 + x.deed(2, 0), 19);
    }

    private static void deedWithoutX() {
        UndoTrade x = Due.made("a", "p00;p10");
        x.make(1, 0, 77);
        x.make(3, 0, 1);
        x.make(4, 0, -8);
        Due.due("P8 x of TURNED", x.deed(2, 2), 0);
        Due.due("P8 x of JOINED", x.deed(3, 2), 1);
        Due.due("P8 x of HIDDEN", x.deed(4, 2), 0);
    }

    // ---- promise 9 ----

    /** "False: no such one." */
    private static void lawNoSuch() {
        for (int law : Edge.outside(-1, 1)) {
            Edge.refused("P9 law(" + law + ") of two", Edge::busy, 0, x -> x.law(law) ? 1 : 0);
        }
        Edge.refused("P9 law(0) of none", Edge.shop("a"), 0, x -> x.law(0) ? 1 : 0);
        Edge.Script four = x -> {
            for (int i = 0; i < 4; i++) {
                Due.tell(x, 1, "y:" + i);
            }
        };
        for (int law = 0; law < 4; law++) {
            int l = law;
            Edge.answers("P9 law(" + law + ") of four", four, x -> x.law(l) ? x.count(5) : -9, law);
        }
        Edge.refused("P9 law(4) of four", four, 0, x -> x.law(4) ? 1 : 0);
        Edge.answers("P9 the one that holds may be told again", Edge::busy, x -> x.law(1) ? x.count(5) : -9, 1);
    }

    /** "(NONE: none)" */
    private static void lawNone() {
        Edge.answers("P9 none holds then", Edge::busy, x -> x.law(-1) ? x.count(5) : -9, -1);
        Edge.answers("P9 its costs", Edge::busy, x -> x.law(-1) ? x.cost(6, 0, 5) : -9, 5);
        Edge.answers("P9 none where none held", Edge::nothing, x -> x.law(-1) ? x.count(5) : -9, -1);
        Edge.answers("P9 a LAW does not hold by being told", Edge.then(Edge.made("a", "p00"), x -> Due.tell(x, 1, "y:9")),
                x -> x.count(5) * 10 + x.cost(0, 0, 5), -9);
        Edge.answers("P9 no ACT", Edge::busy, x -> x.law(0) ? x.count(6) * 100 + x.count(11) : -9, 1212);
    }

    // ---- promise 10 ----

    /** "HASTE (0 .. 9). False: out of bounds" */
    private static void hasteBounds() {
        for (int v : Edge.outside(0, 9)) {
            Edge.refused("P10 haste(" + v + ")", Edge::busy, 0, x -> x.haste(v) ? 1 : 0);
        }
        for (int v = 0; v <= 9; v++) {
            int want = v;
            Edge.answers("P10 haste(" + v + ")", Edge.shop("a"), x -> x.haste(want) ? 1 : 0, v == 3 ? 0 : 1);
            Edge.answers("P10 haste is " + v, Edge.shop("a"), x -> (x.haste(want) ? 0 : 0) + x.count(8), v);
        }
        Edge.answers("P10 no ACT", Edge::busy, x -> x.haste(0) ? x.count(6) * 100 + x.count(11) : -9, 1212);
    }

    /** "False: .. it is so." */
    private static void hasteIsSo() {
        Edge.refused("P10 3 at first", Edge::nothing, 0, x -> x.haste(3) ? 1 : 0);
        Edge.refused("P10 it is 5", Edge::busy, 0, x -> x.haste(5) ? 1 : 0);
        Edge.answers("P10 it was 3", Edge::busy, x -> x.haste(3) ? x.count(8) : -9, 3);
        Edge.refused("P10 a new WORKSHOP keeps it", Edge.then(Edge::busy, x -> Due.tell(x, 0, "a")), 0,
                x -> x.haste(5) ? 1 : 0);
    }

    // ---- promise 41 ----

    /** "NONE: it is not there." */
    private static void uponNotThere() {
        for (int part : Edge.outside(0, 2)) {
            Edge.refused("P41 upon(" + part + ")", Edge::busy, -1, x -> x.upon(part));
        }
        Edge.refused("P41 upon(9), which tells that a PART is not JOINED", Edge::busy, -1, x -> x.upon(9));
        Edge.answers("P41 taken back", Edge.made("a", "p00"), x -> x.undoes(0) * 10 + x.upon(0), -1);
        Edge.answers("P41 no DEEDS", Edge.shop("a"), x -> x.upon(0), -1);
    }

    /** "ON a PART, as bits" */
    private static void uponNone() {
        Edge.answers("P41 none", Edge.made("a", "p00;p10;j01"), x -> x.upon(0), 0);
        Edge.answers("P41 one", Edge.made("a", "p00;p10;j01"), x -> x.upon(1), 1);
        Edge.answers("P41 all others", Edge.made("a", "p00;p10;p20;p30;p40;p50;j05;j15;j25;j35;j45"), x -> x.upon(5), 31);
        Edge.answers("P41 not through others", Edge.made("a", "p00;p10;p20;j01;j12"), x -> x.upon(2), 2);
        Edge.answers("P41 HIDDEN ones, too", Edge.made("a", "p00;p10;j01;h0"), x -> x.upon(1), 1);
        Edge.changesNothing("P41 what it asks", Edge::busy, x -> x.upon(1));
    }
}
