import java.util.Random;

/** All promises over random runs: the class and PlainShop answer the same. */
public final class PlainShopTest {
    private static final Random RANDOM = new Random(20261117);
    private static UndoTrade x;
    private static PlainShop plain;
    private static int run;
    private static int most;
    /** Answers compared in this run; behind the 512th call of an object nothing is promised. */
    private static int compared;

    public static void main(String[] args) {
        for (run = 1; run <= 4000 && !Due.anyWrong(); run++) {
            open();
            compared = 0;
            int enough = 100 + RANDOM.nextInt(250);
            while (compared < enough && !Due.anyWrong()) {
                if (RANDOM.nextInt(3) == 0) {
                    act();
                } else {
                    question();
                }
            }
        }
        Due.close();
    }

    private static void open() {
        x = new UndoTrade();
        plain = new PlainShop();
        workshop();
        for (int i = 0; i < 4; i++) {
            RandomLaw law = new RandomLaw(RANDOM);
            due("law " + law.text, Due.tell(x, 1, law.text), i);
            plain.addLaw(law);
            making();
        }
    }

    private static void workshop() {
        most = 1 + RANDOM.nextInt(7);
        int apprentices = 1 + RANDOM.nextInt(4);
        int[] known = new int[apprentices];
        boolean[] room = new boolean[apprentices];
        StringBuilder text = new StringBuilder("sm" + most);
        for (int a = 0; a < apprentices; a++) {
            known[a] = RANDOM.nextInt(32);
            room[a] = RANDOM.nextBoolean();
            text.append(";ak").append(known[a]).append('r').append(room[a] ? 1 : 0);
        }
        due("workshop " + text, Due.tell(x, 0, text.toString()), apprentices);
        plain.open(most, known, room);
    }

    private static void making() {
        int[][] deeds = new int[1 + RANDOM.nextInt(10)][3];
        StringBuilder text = new StringBuilder();
        for (int i = 0; i < deeds.length; i++) {
            int sort = i == 0 ? 0 : RANDOM.nextInt(5);
            boolean tells = sort != 1 && sort != 4;
            deeds[i] = new int[] {sort, RANDOM.nextInt(3), tells ? RANDOM.nextInt(3) : 0};
            text.append(i == 0 ? "" : ";").append("ptcjh".charAt(sort)).append(deeds[i][1]);
            text.append(tells ? String.valueOf(deeds[i][2]) : "");
        }
        due("making " + text, Due.tell(x, 2, text.toString()) >= 0 ? 1 : 0, 1);
        plain.addMaking(deeds);
    }

    private static void due(String call, long got, long want) {
        compared++;
        Due.due("run " + run + ": " + call, got, want);
    }

    /** Mostly within 0 .. most, now and then beside it. */
    private static int near(int most) {
        return RANDOM.nextInt(12) == 0 ? RANDOM.nextInt(most + 4) - 2 : RANDOM.nextInt(most + 1);
    }

    private static void act() {
        int a = near(4);
        int b = near(5);
        int c = near(9);
        long seed = RANDOM.nextLong();
        switch (RANDOM.nextInt(16)) {
            case 0, 1, 2, 3, 4 -> due("make " + a + " " + b + " " + c, x.make(a, b, c), plain.make(a, b, c));
            case 5, 6 -> due("undoes " + b, x.undoes(b), plain.undoes(b));
            case 7, 8 -> due("takes " + a + " " + b, x.takes(a, b), plain.takes(a, b));
            case 9 -> due("enter " + a, x.enter(a), plain.enter(a));
            case 10 -> due("forgets " + a + " " + b, x.forgets(a, b), plain.forgets(a, b));
            case 11 -> {
                int n = near(20);
                due("years " + n + " " + seed, x.years(n, seed), plain.years(n, seed));
            }
            case 12 -> {
                int n = RANDOM.nextInt(RANDOM.nextInt(5) == 0 ? 50 : 3);
                for (int i = 0; i <= n; i++) {
                    due("undo", x.undo(), plain.undo());
                }
            }
            case 13 -> due("perform " + a, x.perform(a), plain.perform(a));
            case 14 -> {
                if (RANDOM.nextInt(12) == 0) {
                    workshop();
                } else if (RANDOM.nextInt(3) == 0) {
                    due("sell", x.sell(), plain.sell());
                } else if (RANDOM.nextBoolean()) {
                    due("image", x.image(), plain.image());
                } else {
                    due("back", x.back(), plain.back());
                }
            }
            default -> {
                due("law " + (a - 1), x.law(a - 1) ? 1 : 0, plain.law(a - 1) ? 1 : 0);
                due("haste " + c, x.haste(c) ? 1 : 0, plain.haste(c) ? 1 : 0);
            }
        }
        for (int what = RANDOM.nextInt(3); what < 12; what += 3) {
            due("count " + what, x.count(what), plain.count(what));
        }
    }

    private static void question() {
        int a = near(4);
        int b = near(5);
        int d = near(most);
        int e = near(most);
        int what = near(1);
        long seed = RANDOM.nextLong();
        switch (RANDOM.nextInt(22)) {
            case 0 -> due("apprentice " + a + what, Due.apprentice(x, a, what), plain.apprentice(a, what));
            case 1 -> due("shape " + b + " " + e, x.shape(b, e), plain.shape(b, e));
            case 2 -> due("deed " + d + " " + a, x.deed(d, a), plain.deed(d, a));
            case 3 -> {
                int i = near(60);
                due("log " + i + " " + what, x.log(i, what), plain.log(i, what));
            }
            case 4 -> due("run " + a + " " + what, x.run(a, what), plain.run(a, what));
            case 5 -> due("alike " + a + " " + b, x.alike(a, b), plain.alike(a, b));
            case 6 -> due("cost " + d + e + b, x.cost(d, e, b), plain.cost(d, e, b));
            case 7 -> due("rows", x.rows(), plain.rows());
            case 8 -> {
                int i = near(Math.max(0, x.rows()));
                due("row " + i + " " + d, x.row(i, d), plain.row(i, d));
            }
            case 9 -> due("drawn " + seed + " " + d, x.drawn(seed, d), plain.drawn(seed, d));
            case 10 -> due("cheapest " + (d - 1), x.cheapest(d - 1), plain.cheapest(d - 1));
            case 11 -> due("places " + d + what, x.places(d, what), plain.places(d, what));
            case 12 -> due("needs " + d + what, x.needs(d, what), plain.needs(d, what));
            case 13 -> due("sure " + d + e, x.sure(d, e), plain.sure(d, e));
            case 14 -> {
                int some = near(15);
                due("alone " + some, x.alone(some), plain.alone(some));
                due("stuck " + some, x.stuck(some), plain.stuck(some));
            }
            case 15 -> due("team", x.team(), plain.team());
            case 16 -> due("lesson " + a, x.lesson(a), plain.lesson(a));
            case 17 -> due("game " + what, x.game(what), plain.game(what));
            case 18 -> {
                int chance = near(100);
                due("odds " + a + " " + chance, x.odds(a, chance), plain.odds(a, chance));
            }
            case 19 -> {
                if (RANDOM.nextInt(4) == 0) {
                    int v = near(99);
                    boolean more = RANDOM.nextBoolean();
                    due("seen " + a + " " + v + more, x.seen(a, v, more), plain.seen(a, v, more));
                }
                due("args " + a, x.args(a), plain.args(a));
                due("ask " + a, x.ask(a), plain.ask(a));
            }
            case 20 -> due("upon " + b, x.upon(b), plain.upon(b));
            default -> {
                int which = near(6);
                due("all " + which, x.all(which), plain.all(which));
            }
        }
    }
}
