/** Promises 32 to 35, 37 to 40, 43 and 44: apprentices alone, odds, what costs tell, images. */
public final class ApprenticeTest {
    public static void main(String[] args) {
        alone();
        team();
        lesson();
        odds();
        seen();
        ask();
        images();
        Due.close();
    }

    private static void alone() {
        UndoTrade x = Due.made("ak6;ak1r0;ak8", "p00;p10;t0;c13;j01;c09");
        int[] alone = {0, 1, 0, 1, 1, 4, 1, 6};
        int[] stuck = {63, 31, 63, 31, 47, 3, 47, 0};
        for (int some = 0; some < 8; some++) {
            Due.due("alone(" + some + ")", x.alone(some), alone[some]);
            Due.due("stuck(" + some + ")", x.stuck(some), stuck[some]);
        }
        Due.due("alone(8)", x.alone(8), -1);
        Due.due("alone(-1)", x.alone(-1), -1);
        Due.due("stuck(8)", x.stuck(8), -1);
        Due.due("stuck(-1)", x.stuck(-1), -1);
        Due.due("nobody learns", Due.apprentice(x, 0, 0), 6);
        Due.due("nothing is taken", x.count(1), 6);
    }

    private static void team() {
        Due.due("all three", Due.made("ak6;ak1r0;ak8", "p00;p10;t0;c13;j01;c09").team(), 7);
        Due.due("one who knows all", Due.made("ak3;ak4;ak31;ak31", "p00;t0;c01").team(), 4);
        Due.due("two, the least", Due.made("ak1;ak2;ak4;ak6", "p00;t0;c01").team(), 9);
        Due.due("none is better", Due.made("ak0;ak1", "p00;t0").team(), 0);
        Due.due("no deeds", Due.shop("ak31").team(), 0);
    }

    private static void lesson() {
        UndoTrade x = Due.made("ak1;ak31;ak16", "p00;t0;p10;j01");
        Due.due("lesson(0)", x.lesson(0), 10);
        Due.due("lesson(1)", x.lesson(1), 0);
        Due.due("lesson(2)", x.lesson(2), 11);
        Due.due("lesson(3)", x.lesson(3), -1);
        Due.due("lesson(-1)", x.lesson(-1), -1);
        Due.due("no deeds", Due.shop("a").lesson(0), 0);
    }

    private static void odds() {
        UndoTrade x = Due.made("ak2;ak3;a", "p00;t0;t0;t0");
        Due.due("odds(0, 0)", x.odds(0, 0), 1000000000);
        Due.due("odds(0, 100)", x.odds(0, 100), 0);
        Due.due("odds(0, 10)", x.odds(0, 10), 729000000);
        Due.due("odds(1, 33)", x.odds(1, 33), 201511210);
        Due.due("odds(1, 99)", x.odds(1, 99), 10);
        Due.due("he takes none", x.odds(2, 100), 1000000000);
        Due.due("odds(0, 101)", x.odds(0, 101), -1);
        Due.due("odds(0, -1)", x.odds(0, -1), -1);
        Due.due("odds(3, 1)", x.odds(3, 1), -1);
        Due.due("odds(-1, 1)", x.odds(-1, 1), -1);
        UndoTrade y = Due.made("ak31", "p00;t0;t0;t0;c01;c01;c01;p10");
        // the parts that slip are cut: 10^9, 10^7, 10^5, 10^3, 10, 1, 1, 1, 1
        Due.due("cut", y.odds(0, 99), 1);
    }

    private static void seen() {
        UndoTrade x = Due.made("a", "p00");
        Due.law(x, "y:x*10+w+i*50+n*50+[5-b]*50+t*50");
        Due.due("args(0)", x.args(0), 1023);
        Due.due("seen(0, 35, true)", x.seen(0, 35, true), 1);
        Due.due("args(0)", x.args(0), 1023 & ~15);
        Due.due("seen(0, 70, false)", x.seen(0, 70, false), 2);
        Due.due("args(0)", x.args(0), 16 + 32 + 64);
        Due.due("bounds", x.seen(0, 40, true), 3);
        Due.due("args(0)", x.args(0), 16 + 32 + 64);
        Due.due("of another sort", x.args(2), 1023);
        Due.due("letter x is 0 with each", x.seen(1, 1, true), 4);
        Due.due("args(1)", x.args(1), 1023);
        Due.due("seen(1, 2, true)", x.seen(1, 2, true), 5);
        Due.due("args(1)", x.args(1), 0);
        Due.due("args(5)", x.args(5), -1);
        Due.due("args(-1)", x.args(-1), -1);
        Due.due("seen(5, 0, true)", x.seen(5, 0, true), -1);
        Due.due("seen(-1, 0, true)", x.seen(-1, 0, true), -1);
        Due.due("seen(0, 100, true)", x.seen(0, 100, true), -1);
        Due.due("seen(0, -1, true)", x.seen(0, -1, true), -1);
        for (int i = 6; i <= 10; i++) {
            Due.due("seen(4, 99, false)", x.seen(4, 99, false), i);
        }
        Due.due("an eleventh", x.seen(4, 0, true), -1);
        Due.due("count(9)", x.count(9), 10);
        x.undo();
        x.image();
        x.back();
        Due.due("stays", x.count(9), 10);
        x.law(-1);
        Due.due("by the law that holds now", x.args(0), 0);
    }

    private static void ask() {
        UndoTrade x = Due.shop("a");
        Due.law(x, "y:x*10");
        Due.due("ask(0)", x.ask(0), 41);
        x.seen(0, 70, true);
        Due.due("three are left", x.ask(0), 71);
        x.seen(0, 80, true);
        Due.due("two are left", x.ask(0), 81);
        x.seen(0, 81, true);
        Due.due("one is left", x.ask(0), 0);
        x.seen(0, 81, false);
        Due.due("nothing fits", x.ask(0), -1);
        Due.due("ask(1)", x.ask(1), 0);
        Due.due("ask(5)", x.ask(5), -1);
        Due.due("ask(-1)", x.ask(-1), -1);
        Due.law(x, "y:x>2?9;y:3");
        Due.due("seven and three", x.ask(2), 4);
        Due.law(x, "y:x>4?99;y:98");
        Due.due("the highest", x.ask(2), 99);
    }

    private static void images() {
        UndoTrade x = Due.made("ak1;ar0", "p00;t0;p10");
        Due.due("back", x.back(), -1);
        Due.due("image", x.image(), 3);
        Due.due("count(11)", x.count(11), 3);
        x.undoes(1);
        x.enter(1);
        x.sell();
        x.enter(0);
        x.forgets(0, 0);
        x.haste(5);
        Due.due("undo", x.undo(), 7);
        Due.due("back", x.back(), 3);
        int[] due = {2, 3, 0, 1, 0, -1, 3, 12, 5, 0, 3, 0};
        for (int what = 0; what < due.length; what++) {
            Due.due("count(" + what + ")", x.count(what), due[what]);
        }
        Due.due("undo", x.undo(), -1);
        Due.due("knows", Due.apprentice(x, 0, 0), 1);
        Due.due("room", Due.apprentice(x, 0, 1), 1);
        Due.due("room", Due.apprentice(x, 1, 1), 0);
        Due.due("piece", x.deed(1, 0), 1);
        Due.due("log", x.log(0, 1), 3);
        x.make(1, 1, 0);
        Due.due("the image stays", x.back(), 3);
        x.make(1, 1, 0);
        Due.due("instead of the one ahead", x.image(), 4);
        x.sell();
        Due.due("back", x.back(), 4);
        Due.due("count(1)", x.count(1), 4);
    }
}
