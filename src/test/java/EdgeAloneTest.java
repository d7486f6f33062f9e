/** The boundary cases of promises 32 to 35, 37 to 40 and 42 to 45: apprentices alone, what costs tell, images, counts. */
public final class EdgeAloneTest {
    private static final int HIDDEN = -1000000;

    public static void main(String[] args) {
        aloneNoSuch();
        aloneAtEdges();
        teamAtEdges();
        lessonNoSuch();
        lessonAtEdges();
        oddsNoSuch();
        oddsAtEdges();
        seenRefused();
        seenTen();
        seenBounds();
        argsNoSuch();
        argsAtEdges();
        askNoSuch();
        askAtEdges();
        allNoSuch();
        allAtEdges();
        imageAtEdges();
        imageKeeps();
        backNone();
        backNoActs();
        countNoSuch();
        countAtEdges();
        Due.close();
    }

    // ---- promises 32, 33 ----

    /** "NONE: no such APPRENTICES (bits), no WORKSHOP." */
    private static void aloneNoSuch() {
        String text = "ak31;ak31;ak31;ak31";
        for (int n = 1; n <= 4; n++) {
            Edge.Script script = Edge.made(text.substring(0, 5 * n - 1), "p00;t0");
            for (int some : Edge.outside(0, (1 << n) - 1)) {
                Edge.refused("P32 alone(" + some + ") of " + n, script, -1, x -> x.alone(some));
                Edge.refused("P33 stuck(" + some + ") of " + n, script, -1, x -> x.stuck(some));
            }
            for (int some = 0; some < 1 << n; some++) {
                int s = some;
                Edge.answers("P32 alone(" + some + ") of " + n, script, x -> x.alone(s), some == 0 ? 0 : 2);
                Edge.answers("P33 stuck(" + some + ") of " + n, script, x -> x.stuck(s), some == 0 ? 3 : 0);
            }
        }
        Edge.refused("P32 no WORKSHOP", Edge::textsAlone, -1, x -> x.alone(0), x -> x.alone(1));
        Edge.refused("P33 no WORKSHOP", Edge::textsAlone, -1, x -> x.stuck(0), x -> x.stuck(1));
        Edge.changesNothing("P32 P33 asking", Edge::busy, x -> x.alone(7), x -> x.stuck(7), x -> x.team());
    }

    /** "(bits; 0: nobody, who takes none)", "by what they KNOW now (nobody LEARNS), as many as can be" */
    private static void aloneAtEdges() {
        Edge.answers("P32 no DEEDS", Edge.shop("ak31"), x -> x.alone(1), 0);
        Edge.answers("P33 no DEEDS", Edge.shop("ak31"), x -> x.stuck(1), 0);
        Edge.answers("P32 nobody", Edge.made("ak31", "p00"), x -> x.alone(0), 0);
        Edge.answers("P33 nobody", Edge.made("ak31", "p00"), x -> x.stuck(0), 1);
        Edge.answers("P32 he KNOWS none", Edge.made("a", "p00"), x -> x.alone(1), 0);
        Edge.answers("P32 out of the ROOM", Edge.made("ak31r0", "p00"), x -> x.alone(1), 1);
        Edge.answers("P32 nobody LEARNS", Edge.made("ak1;ak2", "p00;t0"), x -> x.alone(1) * 10 + x.alone(2), 1);
        Edge.answers("P32 together", Edge.made("ak1;ak2", "p00;t0"), x -> x.alone(3), 2);
        Edge.answers("P32 twelve", Edge.made("ak3", "p00;p10;p20;p30;p40;p50;t0;t1;t2;t3;t4;t5"), x -> x.alone(1), 12);
        Edge.answers("P33 twelve", Edge.made("a", "p00;p10;p20;p30;p40;p50;t0;t1;t2;t3;t4;t5"), x -> x.stuck(1), 4095);
        Edge.answers("P33 one NEEDS it", Edge.made("ak1", "p00;p10;t0"), x -> x.stuck(1), 5);
        Edge.answers("P33 through another one", Edge.made("ak17", "p00;p10;j01;h0;p20"), x -> x.stuck(1), 7);
        Edge.answers("P33 the fourth one", Edge.made("a;a;a;ak31", "p00"), x -> x.stuck(8) * 10 + x.stuck(7), 1);
    }

    // ---- promise 34 ----

    /** "the fewest APPRENTICES (bits; of several the least) by whom ALONE is most"; "NONE: no WORKSHOP." */
    private static void teamAtEdges() {
        Edge.refused("P34 no WORKSHOP", Edge::textsAlone, -1, x -> x.team());
        Edge.answers("P34 no DEEDS: nobody", Edge.shop("ak31;ak31"), x -> x.team(), 0);
        Edge.answers("P34 nobody can", Edge.made("a;ak1", "p00;t0"), x -> x.team(), 0);
        Edge.answers("P34 the only one", Edge.made("ak1", "p00"), x -> x.team(), 1);
        Edge.answers("P34 of several the least", Edge.made("a;ak1;ak31;ak1", "p00"), x -> x.team(), 2);
        Edge.answers("P34 one instead of two ahead of him", Edge.made("ak1;ak2;ak3", "p00;t0"), x -> x.team(), 4);
        Edge.answers("P34 the last one instead of three", Edge.made("ak1;ak2;ak4;ak7", "p00;t0;c01"), x -> x.team(), 8);
        Edge.answers("P34 two, of several the least", Edge.made("ak1;ak2;ak2;ak1", "p00;t0"), x -> x.team(), 3);
        Edge.answers("P34 two, the least of those who can", Edge.made("ak1;ak4;ak3;ak4", "p00;t0;c01"), x -> x.team(), 6);
        Edge.answers("P34 all four", Edge.made("ak1;ak2;ak4;ak8", "p00;p10;t0;c11;j01"), x -> x.team(), 15);
        Edge.answers("P34 most is not all", Edge.made("ak2;ak8", "p00;p10;t0;t0;c11"), x -> x.team(), 1);
    }

    // ---- promise 35 ----

    /** "NONE: no such APPRENTICE." */
    private static void lessonNoSuch() {
        for (int apprentice : Edge.outside(0, 2)) {
            Edge.refused("P35 lesson(" + apprentice + ")", Edge::busy, -1, x -> x.lesson(apprentice));
        }
        Edge.refused("P35 no WORKSHOP", Edge::nothing, -1, x -> x.lesson(0));
        Edge.changesNothing("P35 asking", Edge::busy, x -> x.lesson(0), x -> x.lesson(2));
    }

    private static void lessonAtEdges() {
        Edge.answers("P35 no DEEDS: nothing", Edge.shop("a"), x -> x.lesson(0), 0);
        Edge.answers("P35 he KNOWS all", Edge.made("ak31", "p00;p10;t0;c11;j01;h0"), x -> x.lesson(0), 0);
        Edge.answers("P35 he KNOWS none", Edge.made("a", "p00;p10;t0;c11;j01;h0"), x -> x.lesson(0), 31);
        Edge.answers("P35 the fewest", Edge.made("ak2", "p00;p10;t0;j01"), x -> x.lesson(0), 9);
        Edge.answers("P35 the fourth", Edge.made("ak31;ak31;ak31;a", "p00"), x -> x.lesson(3), 1);
        Edge.answers("P35 as now", Edge.then(Edge.made("a", "p00;p10"), x -> x.undoes(0)), x -> x.lesson(0), 0);
    }

    // ---- promise 37 ----

    /** "NONE: no such APPRENTICE, out of bounds." */
    private static void oddsNoSuch() {
        for (int apprentice : Edge.outside(0, 2)) {
            Edge.refused("P37 odds(" + apprentice + ", 5)", Edge::busy, -1, x -> x.odds(apprentice, 5));
        }
        for (int chance : Edge.outside(0, 100)) {
            Edge.refused("P37 odds(0, " + chance + ")", Edge::busy, -1, x -> x.odds(0, chance));
        }
        Edge.refused("P37 no WORKSHOP", Edge::nothing, -1, x -> x.odds(0, 0));
        Edge.changesNothing("P37 asking", Edge::busy, x -> x.odds(1, 50));
    }

    /** "of 10 to the 9 parts .. (of each part chance 100ths, cut, slip)" */
    private static void oddsAtEdges() {
        String twelve = "p00;p10;p20;p30;p40;p50;t0;t1;t2;t3;t4;t5";
        for (int chance = 0; chance <= 100; chance++) {
            int c = chance;
            long parts = 1000000000;
            for (int i = 0; i < 12; i++) {
                parts -= parts * chance / 100;
            }
            Edge.answers("P37 twelve, chance " + chance, Edge.made("ak3", twelve), x -> x.odds(0, c), parts);
            Edge.answers("P37 he takes none, chance " + chance, Edge.made("ak31;a", twelve), x -> x.odds(1, c), 1000000000);
            Edge.answers("P37 he takes one, chance " + chance, Edge.made("ak1", "p00"), x -> x.odds(0, c),
                    10000000L * (100 - chance));
        }
        Edge.answers("P37 no DEEDS", Edge.shop("ak31"), x -> x.odds(0, 100), 1000000000);
        Edge.answers("P37 he can never slip", Edge.made("ak3", twelve), x -> x.odds(0, 0), 1000000000);
        Edge.answers("P37 he always slips", Edge.made("ak3", twelve), x -> x.odds(0, 100), 0);
        Edge.answers("P37 what slips is cut: one part stays", Edge.made("ak3", twelve), x -> x.odds(0, 99), 1);
        Edge.answers("P37 cut", Edge.made("ak3", "p00;t0;t0;t0;p10"), x -> x.odds(0, 99), 1);
        Edge.answers("P37 cut", Edge.made("ak3", "p00;t0;t0;t0"), x -> x.odds(0, 99), 10);
        Edge.answers("P37 those that he could", Edge.made("ak2", "p00;t0;t0;c01"), x -> x.odds(0, 50), 250000000);
    }

    // ---- promise 38 ----

    /** "NONE: no WORKSHOP, no such SORT, out of bounds" */
    private static void seenRefused() {
        Edge.refused("P38 no WORKSHOP", Edge::textsAlone, -1, x -> x.seen(0, 0, true), x -> x.seen(4, 99, false));
        for (int sort : Edge.outside(0, 4)) {
            Edge.refused("P38 seen(" + sort + ", 5, true)", Edge::busy, -1, x -> x.seen(sort, 5, true));
            Edge.refused("P38 seen(" + sort + ", 5, false)", Edge::busy, -1, x -> x.seen(sort, 5, false));
        }
        for (int v : Edge.outside(0, 99)) {
            Edge.refused("P38 seen(0, " + v + ", true)", Edge::busy, -1, x -> x.seen(0, v, true));
            Edge.refused("P38 seen(4, " + v + ", false)", Edge::busy, -1, x -> x.seen(4, v, false));
        }
    }

    private static void seen(UndoTrade x, int many) {
        for (int i = 0; i < many; i++) {
            x.seen(0, 2 * i, true);
        }
    }

    /** "SEEN (10 at most)", "NONE: .. there are ten." */
    private static void seenTen() {
        for (int many = 0; many < 10; many++) {
            int m = many;
            Edge.answers("P38 how many there are", Edge.then(Edge.shop("a"), x -> seen(x, m)), x -> x.seen(4, 9, false), many + 1);
            Edge.answers("P45 how many there are", Edge.then(Edge.shop("a"), x -> seen(x, m)), x -> x.count(9), many);
        }
        Edge.Script ten = Edge.then(Edge::busy, x -> seen(x, 8));
        Edge.refused("P38 there are ten", ten, -1, x -> x.seen(0, 0, true), x -> x.seen(3, 99, false));
        Edge.answers("P45 there are ten", ten, x -> x.seen(0, 0, true) * 0 + x.count(9), 10);
        Edge.answers("P38 they stay when an ACT is UNDONE", ten, x -> x.undo() * 0 + x.count(9), 10);
        Edge.answers("P38 they stay behind BACK", ten, x -> x.back() * 0 + x.count(9), 10);
        Edge.answers("P38 the same one again", Edge.then(Edge.shop("a"), x -> seen(x, 1)), x -> x.seen(0, 0, true), 2);
        Edge.answers("P38 no ACT", Edge.shop("a"), x -> x.seen(0, 0, true) * 10 + x.count(6) + x.count(11), 10);
        Edge.answers("P38 another WORKSHOP", Edge.then(ten, x -> Due.tell(x, 0, "a")), x -> x.seen(0, 0, true), 1);
        Edge.answers("P38 the tenth tells, too", Edge.then(Edge.shop("a"), x -> {
            Due.law(x, "y:x");
            seen(x, 9);
            x.law(0);
        }), x -> x.args(1) + x.seen(1, 1, true) * 10000 + x.args(1), 101023);
    }

    /** "COST v (0 .. 99) or more, or did not" */
    private static void seenBounds() {
        Edge.Script script = Edge.then(Edge.shop("a"), x -> Due.law(x, "y:x*11"));
        Edge.answers("P38 0 or more", script, x -> x.seen(0, 0, true) * 10000 + x.args(0), 11023);
        Edge.answers("P38 not 0 or more", script, x -> x.seen(0, 0, false) * 10000 + x.args(0), 10000);
        Edge.answers("P38 99 or more", script, x -> x.seen(0, 99, true) * 10000 + x.args(0), 10512);
        Edge.answers("P38 not 99 or more", script, x -> x.seen(0, 99, false) * 10000 + x.args(0), 10511);
        Edge.answers("P38 44 or more", script, x -> x.seen(0, 44, true) * 10000 + x.args(0), 10000 + 1023 - 15);
        Edge.answers("P38 45 or more", script, x -> x.seen(0, 45, true) * 10000 + x.args(0), 10000 + 1023 - 31);
        Edge.answers("P38 not 44 or more", script, x -> x.seen(0, 44, false) * 10000 + x.args(0), 10015);
        Edge.answers("P38 not 45 or more", script, x -> x.seen(0, 45, false) * 10000 + x.args(0), 10031);
    }

    // ---- promise 39 ----

    /** "NONE: no WORKSHOP, no such SORT." */
    private static void argsNoSuch() {
        for (int sort : Edge.outside(0, 4)) {
            Edge.refused("P39 args(" + sort + ")", Edge::busy, -1, x -> x.args(sort));
        }
        Edge.refused("P39 no WORKSHOP", Edge::textsAlone, -1, x -> x.args(0), x -> x.args(4));
        Edge.changesNothing("P39 asking", Edge::busy, x -> x.args(0), x -> x.args(2));
    }

    /** "x (0 .. 9; TURNED, HIDDEN: letter x is 0 with each) by which all SEEN of it is so" */
    private static void argsAtEdges() {
        for (int sort = 0; sort < 5; sort++) {
            int s = sort;
            boolean hasX = sort != 1 && sort != 4;
            Edge.Script script = Edge.then(Edge.shop("a"), x -> Due.law(x, "y:x*11"));
            Edge.answers("P39 nothing SEEN", script, x -> x.args(s), 1023);
            Edge.answers("P39 the least x", script, x -> x.seen(s, 1, false) * 0 + x.args(s), hasX ? 1 : 1023);
            Edge.answers("P39 the most x", script, x -> x.seen(s, 99, true) * 0 + x.args(s), hasX ? 512 : 0);
            Edge.answers("P39 nothing fits", script,
                    x -> x.seen(s, 50, false) * 0 + x.seen(s, 50, true) * 0 + x.args(s), 0);
            Edge.answers("P39 SEEN of another SORT", script, x -> x.seen((s + 1) % 5, 99, true) * 0 + x.args(s), 1023);
            Edge.answers("P39 no LAW: its SORT and 1", Edge.shop("a"), x -> x.seen(s, s + 1, true) * 0 + x.args(s), 1023);
            Edge.answers("P39 no LAW: its SORT and 1", Edge.shop("a"), x -> x.seen(s, s + 2, true) * 0 + x.args(s), 0);
            Edge.answers("P39 of the PART 0, as the first of a row, at TIME 0",
                    Edge.then(Edge.made("a", "p00;p10;t1"), x -> Due.law(x, "y:w+i*20+n*20+t*20+[5-b]*20")),
                    x -> x.seen(s, s, true) * 0 + x.seen(s, s + 1, false) * 0 + x.args(s), 1023);
            Edge.answers("P39 the letter b is 5", Edge.then(Edge.shop("a"), x -> Due.law(x, "y:b")),
                    x -> x.seen(s, 5, true) * 0 + x.seen(s, 6, false) * 0 + x.args(s), 1023);
        }
        Edge.answers("P39 by the LAW that holds now", Edge.then(Edge.shop("a"), x -> {
            x.seen(0, 50, true);
            Due.law(x, "y:x*11");
        }), x -> x.args(0) * 10 + (x.law(-1) ? x.args(0) : -9), 9920);
    }

    // ---- promise 40 ----

    /** "NONE: nothing fits, no WORKSHOP, no such SORT." */
    private static void askNoSuch() {
        for (int sort : Edge.outside(0, 4)) {
            Edge.refused("P40 ask(" + sort + ")", Edge::busy, -1, x -> x.ask(sort));
        }
        Edge.refused("P40 no WORKSHOP", Edge::textsAlone, -1, x -> x.ask(0), x -> x.ask(4));
        Edge.refused("P40 nothing fits", Edge.then(Edge.shop("a"), x -> x.seen(0, 0, false)), -1, x -> x.ask(0));
        Edge.changesNothing("P40 asking", Edge::busy, x -> x.ask(0), x -> x.ask(2));
    }

    private static void asks(String sentence, String law, int sort, int due) {
        Edge.answers(sentence + " " + law, Edge.then(Edge.shop("a"), x -> Due.law(x, law)), x -> x.ask(sort), due);
    }

    /** "the v (0 .. 99) for which v or more and less are least apart in number among these (of several the least)" */
    private static void askAtEdges() {
        asks("P40 all alike: of several the least", "y:7", 0, 0);
        asks("P40 all alike, as many as can be", "y:99", 0, 0);
        asks("P40 all alike, none", "y:0", 0, 0);
        asks("P40 five and five", "y:x", 0, 5);
        asks("P40 five and five, of several the least", "y:x*10", 0, 41);
        asks("P40 five and five, the most", "y:x>4?99;y:98", 0, 99);
        asks("P40 five and five, the least", "y:x>4?1;y:0", 0, 1);
        asks("P40 one and nine", "y:x=9?50;y:10", 0, 11);
        asks("P40 nine and one", "y:x=0?10;y:50", 0, 11);
        asks("P40 three, three and four", "y:x<3?10;y:x<6?20;y:30", 0, 21);
        asks("P40 three, four and three: of several the least", "y:x<3?10;y:x<7?20;y:30", 0, 11);
        asks("P40 four, three and three", "y:x<4?10;y:x<7?20;y:30", 0, 11);
        asks("P40 TURNED: x is 0 with each", "y:x*11+30", 1, 0);
        asks("P40 HIDDEN: x is 0 with each", "y:x*11+30", 4, 0);
        asks("P40 COATED", "y:x", 2, 5);
        asks("P40 JOINED", "y:x", 3, 5);
        Edge.answers("P40 among these alone", Edge.then(Edge.shop("a"), x -> Due.law(x, "y:x")),
                x -> x.seen(0, 6, true) * 0 + x.ask(0), 8);
        Edge.answers("P40 one fits", Edge.then(Edge.shop("a"), x -> Due.law(x, "y:x")),
                x -> x.seen(0, 9, true) * 0 + x.ask(0), 0);
        Edge.answers("P40 two fit", Edge.then(Edge.shop("a"), x -> Due.law(x, "y:x")),
                x -> x.seen(0, 8, true) * 0 + x.ask(0), 9);
    }

    // ---- promise 42 ----

    /** "NONE: no WORKSHOP, no such what." */
    private static void allNoSuch() {
        for (int what : Edge.outside(0, 6)) {
            Edge.refused("P42 all(" + what + ")", Edge::busy, -1, x -> x.all(what));
        }
        for (int what = 0; what < 7; what++) {
            int w = what;
            Edge.refused("P42 no WORKSHOP " + what, Edge::textsAlone, -1, x -> x.all(w));
            Edge.changesNothing("P42 asking " + what, Edge::busy, x -> x.all(w));
        }
    }

    private static void all(String sentence, String making, int... due) {
        for (int what = 0; what < due.length; what++) {
            int w = what;
            Edge.answers(sentence + ", all(" + what + ")", Edge.made("a", making), x -> x.all(w), due[what]);
        }
    }

    /** "(no PART: 0, one alone: 1)" */
    private static void allAtEdges() {
        all("P42 no DEEDS", "", 0, 0, 0, 0, 0, 0, 0);
        all("P42 one DEED", "p50", 1, 1, 1, 1, 32, 32);
        all("P42 two alone", "p00;p50", 3, 3, 0, 1, 33, 33);
        all("P42 one way alone", "p00;t0;t0", 4, 1, 7, 1, 1, 1);
        all("P42 six alone", "p00;p10;p20;p30;p40;p50", 63, 63, 0, 1, 63, 63);
        all("P42 six one over the other", "p00;p10;p20;p30;p40;p50;j01;j12;j23;j34;j45", 31 << 6, 63, 0, 6, 32, 63);
        all("P42 five onto one", "p00;p10;p20;p30;p40;p50;j05;j15;j25;j35;j45", 31 << 6, 63, 0, 2, 32, 63);
        all("P42 HIDDEN ones stand, too", "p00;p10;j01;h0", 8, 3, 12, 2, 2, 3);
        all("P42 twelve", "p00;p10;p20;p30;p40;p50;t0;t1;t2;t3;t4;t5", 63 << 6, 63, 0, 1, 63, 63);
        Edge.answers("P42 the highest of two", Edge.made("a", "p00;p10;p20;p30;p40;j01;j23;j34"), x -> x.all(3), 3);
        Edge.answers("P42 nobody in the ROOM", Edge.shop("ak31r0;ak31r0"), x -> x.all(6), 0);
        Edge.answers("P42 one in the ROOM", Edge.shop("ak31r0;ak5;ak31r0"), x -> x.all(6), 5);
        Edge.answers("P42 together", Edge.shop("ak1;ak2;ak4r0;ak16"), x -> x.all(6), 19);
        Edge.answers("P42 they KNOW none", Edge.shop("a;a"), x -> x.all(6), 0);
        Edge.answers("P42 they KNOW all", Edge.shop("ak31;a"), x -> x.all(6), 31);
    }

    // ---- promise 43 ----

    /** "An IMAGE (instead of the one ahead): TIME. NONE: no WORKSHOP." */
    private static void imageAtEdges() {
        Edge.refused("P43 no WORKSHOP", Edge::textsAlone, -1, x -> x.image());
        Edge.answers("P43 TIME 0", Edge.shop("a"), x -> x.image(), 0);
        Edge.answers("P43 of TIME 0, BACK", Edge.then(Edge.shop("a"), x -> {
            x.image();
            x.make(0, 0, 0);
        }), x -> x.back() * 10 + x.count(1), 0);
        Edge.answers("P43 instead of the one ahead", Edge.then(Edge.made("a", "p00"), x -> {
            x.image();
            x.make(0, 1, 0);
            x.image();
            x.sell();
        }), x -> x.back() * 10 + x.count(1), 22);
        Edge.answers("P43 the same again", Edge.then(Edge.made("a", "p00"), x -> x.image()), x -> x.image() * 10 + x.back(), 11);
        Edge.answers("P43 no ACT", Edge.made("a", "p00"), x -> x.image() * 0 + x.count(6) * 10 + x.count(11), 11);
    }

    /** "An IMAGE keeps the PIECE, what APPRENTICES KNOW, who is in the ROOM, TIME, the LOG" */
    private static void imageKeeps() {
        Edge.Script before = Edge.made("ak1;ar0k31", "p00;t0;p10");
        Edge.Script image = Edge.then(before, x -> x.image());
        Edge.Call[] acts = {x -> x.make(0, 5, 5), x -> x.undoes(2), x -> x.takes(1, 1), x -> x.enter(0), x -> x.forgets(1, 4),
            x -> x.sell(), x -> x.years(20, 3), x -> x.undo(), x -> x.perform(0)};
        for (int i = 0; i < acts.length; i++) {
            Edge.Call act = acts[i];
            Edge.changesNothing("P44 BACK from the act " + i, Edge.then(image, x -> x.back()), x -> act.of(x) * 0 + x.back());
        }
        Edge.answers("P44 the LAW that holds is as it is", Edge.then(image, x -> Due.law(x, "y:9")),
                x -> x.back() * 0 + x.count(5), 0);
        Edge.answers("P44 HASTE is as it is", Edge.then(image, x -> x.haste(8)), x -> x.back() * 0 + x.count(8), 8);
        Edge.answers("P44 SEEN is as it is", Edge.then(image, x -> x.seen(0, 0, true)), x -> x.back() * 0 + x.count(9), 1);
        Edge.answers("P44 the TAPE is as it is", Edge.then(image, x -> Due.tape(x, "abc")), x -> x.back() * 0 + x.count(4), 3);
        Edge.answers("P44 MAKINGS are as they are", Edge.then(image, x -> Due.tell(x, 2, "p00")),
                x -> x.back() * 0 + x.count(3), 2);
        Edge.Script full = Edge.then(Edge.shop("a"), x -> {
            for (int i = 0; i < 35; i++) {
                x.make(0, 0, 0);
                x.undoes(0);
            }
        });
        Edge.Script back = Edge.then(full, x -> {
            x.image();
            for (int i = 0; i < 6; i++) {
                x.make(0, i, 0);
            }
            x.sell();
            x.back();
        });
        for (int i = 0; i < 60; i++) {
            int at = i;
            Edge.answers("P44 the LOG of more than 60, what", back, x -> x.log(at, 0), i % 2 == 0 ? 5 : 0);
            Edge.answers("P44 the LOG of more than 60, DEEDS", back, x -> x.log(at, 1), i % 2);
        }
    }

    // ---- promise 44 ----

    /** "NONE: no IMAGE of this WORKSHOP." */
    private static void backNone() {
        Edge.refused("P44 no WORKSHOP", Edge::textsAlone, -1, x -> x.back());
        Edge.refused("P44 no IMAGE", Edge.made("ak3", "p00;t0"), -1, x -> x.back());
        Edge.refused("P44 an IMAGE of another WORKSHOP", Edge.then(Edge::busy, x -> {
            Due.tell(x, 0, "ak3");
            x.make(0, 0, 0);
        }), -1, x -> x.back());
        Edge.answers("P44 a WORKSHOP that was refused is none", Edge.then(Edge::busy, x -> Due.tell(x, 0, "ak32")),
                x -> x.back(), 10);
        Edge.answers("P44 as often as told", Edge.then(Edge.made("a", "p00"), x -> x.image()),
                x -> x.back() * 100 + x.make(0, 1, 0) * 0 + x.back() * 10 + x.back(), 111);
    }

    /** "(no ACT can be UNDONE then)" */
    private static void backNoActs() {
        Edge.Script script = Edge.then(Edge::busy, x -> x.back());
        Edge.answers("P44 no ACT can be UNDONE", script, x -> x.count(11), 0);
        Edge.refused("P44 no ACT can be UNDONE", script, -1, x -> x.undo());
        Edge.answers("P44 ACTS from then on", script, x -> x.make(0, 4, 4) * 0 + x.undo() * 10 + x.count(6), 10);
        Edge.answers("P44 TIME", Edge::busy, x -> x.back(), 10);
        Edge.refused("P44 twice is as once", script, 10, x -> x.back());
    }

    // ---- promise 45 ----

    /** "HIDDEN for others." */
    private static void countNoSuch() {
        for (int what : Edge.outside(0, 11)) {
            Edge.refused("P45 count(" + what + ")", Edge::busy, HIDDEN, x -> x.count(what));
            Edge.answers("P45 count(" + what + ") of a new object", Edge::nothing, x -> x.count(what), HIDDEN);
        }
        for (int what = 0; what < 12; what++) {
            int w = what;
            Edge.changesNothing("P45 asking " + what, Edge::busy, x -> x.count(w));
        }
    }

    private static void counts(String sentence, Edge.Script script, String due) {
        Edge.answers(sentence, script, x -> {
            Due.due(sentence, Edge.counts(x), due);
            return 0;
        }, 0);
    }

    /** "(NONE)", "(0: no WORKSHOP)" */
    private static void countAtEdges() {
        counts("P45 a new object", Edge::nothing, "[0, 0, 0, 0, 0, -1, 0, 0, 3, 0, 0, 0]");
        counts("P45 texts alone", Edge::textsAlone, "[0, 0, 1, 1, 3, 0, 0, 0, 6, 0, 0, 0]");
        counts("P45 all there can be", Edge::busy, "[3, 8, 2, 2, 4, 1, 12, 9, 5, 2, 10, 12]");
        counts("P45 as many as can be", x -> {
            for (int i = 0; i < 4; i++) {
                Due.tell(x, 1, "y:1");
                Due.tell(x, 2, "p00;p10;p20;p30;p40;p50;t0;t1;t2;t3;t4;t5");
            }
            Due.tell(x, 0, "a;a;a;a");
            x.law(3);
            x.haste(9);
            for (int i = 0; i < 5; i++) {
                x.sell();
                x.perform(3);
            }
            for (int i = 0; i < 10; i++) {
                x.seen(0, 1, true);
            }
            for (int i = 0; i < 12; i++) {
                x.feed(-1, -1, -1, -1, -1);
            }
        }, "[4, 12, 4, 4, 240, 3, 64, 12, 9, 10, 60, 40]");
    }
}
