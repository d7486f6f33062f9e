/** Promises 24 to 31, 36 and 42: costs, rows, what needs what, the game. */
public final class RowTest {
    public static void main(String[] args) {
        empty();
        laws();
        costBounds();
        rowsOfTwelve();
        rowsInOrder();
        drawn();
        cheapest();
        places();
        games();
        Due.close();
    }

    private static void empty() {
        UndoTrade x = Due.shop("a");
        Due.due("rows", x.rows(), 1);
        Due.due("row", x.row(0, 0), -1);
        Due.due("drawn", x.drawn(1, 0), -1);
        Due.due("cheapest(-1)", x.cheapest(-1), 0);
        Due.due("cheapest(0)", x.cheapest(0), -1);
        Due.due("game(0)", x.game(0), 0);
        Due.due("game(1)", x.game(1), -1);
        Due.due("game(2)", x.game(2), -1000000);
        Due.due("game(-1)", x.game(-1), -1000000);
        for (int what = 0; what < 6; what++) {
            Due.due("all(" + what + ")", x.all(what), 0);
        }
    }

    /** Costs of the deed c 3 7 at time 5, as the fourth of a row behind a join. */
    private static void laws() {
        Object[] cases = {
            "y:w", 2, "y:i", 3, "y:x", 7, "y:n", 3, "y:b", 3, "y:t", 5, "y:99", 99, "y:100", 99, "y:1-2", 0,
            "y:2+3*4", 14, "y:20-3-4", 13, "y:40/3/2", 6, "y:7/0+5", 5, "y:[1-8]/2+10", 7, "y:9999*9999-9999*99", 99,
            "y:9999*9999-9999*9999+4", 4, "y:[0-9999*9999]+9999*100+9", 0, "y:9999*9999/9999", 99,
            "y:9999*9999-9999*100-50", 50, "y:999*[0-9999]*2/1000+1009", 9,
            "y:2*[3+4]", 14, "y:w=2?5;y:6", 5, "y:w=1?5;y:6", 6, "y:w=1?5", 0, "y:w<3&i>2?1", 1, "y:w<2|i>2?1", 1,
            "y:w<2&i>2?1;y:2", 2, "y:!w=2?1;y:2", 2, "y:!w=1?1;y:2", 1, "y:!!w=2?1;y:2", 1, "y:!w=1&i=4?1;y:2", 2,
            "y:!(w=1&i=4)?1;y:2", 1, "y:w=2|w=3&w=4?1;y:2", 1, "y:(w=2|w=3)&w=4?1;y:2", 2, "y:w=w?1;y:2", 1,
            "y:w=2?1;y:w=2?2", 1, "y:w+1>b-1?1;y:2", 1, "y:[w]=[1+1]?[x]", 7, "y:0010", 10, "y:w=2?0-5;y:9", 0,
        };
        for (int i = 0; i < cases.length; i += 2) {
            UndoTrade x = Due.made("a", "p30;p10;p20;t3;c37");
            Due.law(x, (String) cases[i]);
            Due.due("cost by " + cases[i], x.cost(4, 3, 3), (Integer) cases[i + 1]);
        }
        UndoTrade x = Due.made("a", "p30;p14;t3;j31;h3");
        Due.law(x, "y:x+w*10");
        int[] due = {0, 4, 10, 31, 40};
        for (int d = 0; d < 5; d++) {
            Due.due("x of deed " + d, x.cost(d, 0, 5), due[d]);
        }
        x.law(-1);
        for (int d = 0; d < 5; d++) {
            Due.due("without a law", x.cost(d, 0, 5), x.deed(d, 0) + 1);
        }
    }

    private static void costBounds() {
        UndoTrade x = Due.made("a", "p30");
        Due.due("cost(0, 11, 0)", x.cost(0, 11, 0), 1);
        Due.due("cost(0, 12, 0)", x.cost(0, 12, 0), -1);
        Due.due("cost(0, -1, 0)", x.cost(0, -1, 0), -1);
        Due.due("cost(0, 0, 5)", x.cost(0, 0, 5), 1);
        Due.due("cost(0, 0, 6)", x.cost(0, 0, 6), -1);
        Due.due("cost(0, 0, -1)", x.cost(0, 0, -1), -1);
        Due.due("cost(1, 0, 0)", x.cost(1, 0, 0), -1);
        Due.due("cost(-1, 0, 0)", x.cost(-1, 0, 0), -1);
    }

    private static void rowsOfTwelve() {
        UndoTrade x = Due.made("a", "p00;p10;p20;p30;p40;p50;t0;t1;t2;t3;t4;t5");
        // 12! orders, in each of six pairs one half of them
        Due.due("rows", x.rows(), 7484400);
        Due.due("row(7484399, 0)", x.row(7484399, 0), 5);
        Due.due("row(7484399, 1)", x.row(7484399, 1), 11);
        Due.due("row(7484399, 11)", x.row(7484399, 11), 6);
        Due.due("row(7484400, 0)", x.row(7484400, 0), -1);
        Due.due("row(0, 12)", x.row(0, 12), -1);
        for (int d = 0; d < 12; d++) {
            Due.due("row(0, " + d + ")", x.row(0, d), d);
        }
        UndoTrade y = Due.made("a", "p00;t0;t0;t0;c01;c02;c03;p10;j01;h0");
        // the two of three among the first seven, the other put anywhere ahead of the join
        Due.due("needs of the hiding", y.needs(9, 0), 511);
        Due.due("needs of the join", y.needs(8, 0), 1 + 2 + 4 + 8 + 128);
        Due.due("fixed", y.all(2), 512);
        Due.due("firsts", y.all(1), 129);
        Due.due("lasts", y.all(0), 512);
        UndoTrade z = Due.made("a", "p00;t0;t0;t0");
        Due.due("one row, all fixed", z.all(2), 15);
        Due.due("rows", z.rows(), 1);
    }

    private static void rowsInOrder() {
        UndoTrade x = Due.made("a", "p00;p10;t0;c11");
        int[][] due = {{0, 1, 2, 3}, {0, 1, 3, 2}, {0, 2, 1, 3}, {1, 0, 2, 3}, {1, 0, 3, 2}, {1, 3, 0, 2}};
        Due.due("rows", x.rows(), 6);
        for (int i = 0; i < 6; i++) {
            for (int at = 0; at < 4; at++) {
                Due.due("row(" + i + ", " + at + ")", x.row(i, at), due[i][at]);
            }
        }
        Due.due("row(-1, 0)", x.row(-1, 0), -1);
        Due.due("row(0, -1)", x.row(0, -1), -1);
        Due.due("row(0, 4)", x.row(0, 4), -1);
    }

    private static void drawn() {
        UndoTrade x = Due.made("a", "p00;p10;t0;c11");
        for (long seed = -20; seed < 20; seed++) {
            long state = seed * 1234567890123L;
            int i = (int) (((state * 6364136223846793005L + 1442695040888963407L) >>> 33) % 6);
            for (int at = 0; at < 4; at++) {
                Due.due("drawn", x.drawn(state, at), x.row(i, at));
            }
        }
        Due.due("drawn(1, 4)", x.drawn(1, 4), -1);
        Due.due("drawn(1, -1)", x.drawn(1, -1), -1);
    }

    private static void cheapest() {
        UndoTrade x = Due.made("a", "p00;p10;t0;c11");
        Due.due("without a law: any, so the first", x.cheapest(-1), 7);
        Due.due("cheapest(1)", x.cheapest(1), 1);
        Due.law(x, "y:w=2?n*10;y:n");
        // the coat as early as it can be
        int[] due = {1, 3, 0, 2};
        for (int at = 0; at < 4; at++) {
            Due.due("cheapest(" + at + ")", x.cheapest(at), due[at]);
        }
        Due.due("cost", x.cheapest(-1), 0 + 10 + 2 + 3);
        Due.law(x, "y:b=5?i*5;y:w=b?9;y:1");
        // 0, 2, 1, 3 has no two of a sort one behind the other
        Due.due("cost", x.cheapest(-1), 3);
        Due.due("cheapest(1)", x.cheapest(1), 2);
        Due.due("cheapest(4)", x.cheapest(4), -1);
        Due.due("cheapest(-2)", x.cheapest(-2), -1);
        Due.law(x, "y:t");
        Due.due("time tells", x.cheapest(-1), 16);
    }

    private static void places() {
        UndoTrade x = Due.made("a", "p00;p10;t0;t0;j01;p20");
        int[][] due = {{0, 2}, {0, 4}, {1, 3}, {2, 4}, {4, 5}, {0, 5}};
        for (int d = 0; d < 6; d++) {
            Due.due("places(" + d + ", 0)", x.places(d, 0), due[d][0]);
            Due.due("places(" + d + ", 1)", x.places(d, 1), due[d][1]);
        }
        Due.due("places(0, 2)", x.places(0, 2), -1);
        Due.due("places(0, -1)", x.places(0, -1), -1);
        Due.due("places(6, 0)", x.places(6, 0), -1);
        Due.due("places(-1, 0)", x.places(-1, 0), -1);
        Due.due("needs(3, 0)", x.needs(3, 0), 5);
        Due.due("needs(2, 1)", x.needs(2, 1), 24);
        Due.due("needs(5, 0)", x.needs(5, 0), 0);
        Due.due("needs(0, 2)", x.needs(0, 2), -1);
        Due.due("needs(6, 0)", x.needs(6, 0), -1);
        Due.due("needs(-1, 0)", x.needs(-1, 0), -1);
        Due.due("sure(0, 4)", x.sure(0, 4), 1);
        Due.due("sure(4, 0)", x.sure(4, 0), 0);
        Due.due("sure(1, 2)", x.sure(1, 2), 0);
        Due.due("sure(0, 0)", x.sure(0, 0), 0);
        Due.due("sure(0, 6)", x.sure(0, 6), -1);
        Due.due("sure(6, 0)", x.sure(6, 0), -1);
        Due.due("sure(-1, 0)", x.sure(-1, 0), -1);
    }

    private static void games() {
        UndoTrade x = Due.made("a", "p00;p10;t0;c11");
        // free are the turn (2) and the coat (3); behind each a put (1): coat, turn, put, put
        Due.due("game(0)", x.game(0), 1);
        Due.due("game(1)", x.game(1), 3);
        UndoTrade y = Due.made("a", "p05;p15;p25");
        Due.law(y, "y:x*[i+1]+n+b");
        // 10, 15, 20: the dearest first
        Due.due("game(0)", y.game(0), 20 - 15 + 10);
        Due.due("game(1)", y.game(1), 2);
        Due.law(y, "y:4");
        Due.due("of several the lowest", y.game(1), 0);
        Due.due("game(0)", y.game(0), 4);
        Due.law(y, "y:t");
        Due.due("time tells", y.game(0), 3);
    }
}
