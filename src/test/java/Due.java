/** What the tests share: answers compared with what is due, texts fed, workshops opened. */
final class Due {
    private static int wrong = 0;

    private Due() {
    }

    static void due(String call, long got, long want) {
        if (got != want) {
            wrong++;
            System.out.println(call + " answered " + got + ", due is " + want);
        }
    }

    static void due(String call, boolean got, boolean want) {
        due(call, got ? 1 : 0, want ? 1 : 0);
    }

    static void due(String call, String got, String want) {
        if (!got.equals(want)) {
            wrong++;
            System.out.println(call + ": " + got + ", due is " + want);
        }
    }

    /** Call at the end of a main method. */
    static void close() {
        if (wrong != 0) {
            System.out.println(wrong + " answers are not as due");
            System.exit(1);
        }
    }

    static boolean anyWrong() {
        return wrong != 0;
    }

    /** The tape has this text alone. */
    static int tape(UndoTrade x, String text) {
        x.end(0);
        int length = 0;
        for (int from = 0; from < text.length(); from += 20) {
            int[] words = new int[5];
            for (int i = 0; i < 20; i++) {
                int sign = from + i < text.length() ? text.charAt(from + i) : 0;
                words[i / 4] |= sign << 24 - i % 4 * 8;
            }
            length = x.feed(words[0], words[1], words[2], words[3], words[4]);
        }
        return length;
    }

    static int tell(UndoTrade x, int sort, String text) {
        tape(x, text);
        return x.text(sort);
    }

    static UndoTrade shop(String text) {
        UndoTrade x = new UndoTrade();
        if (tell(x, 0, text) < 1) {
            due("workshop " + text, 0, 1);
        }
        return x;
    }

    /** A new workshop in which the making was done as far as it can be. */
    static UndoTrade made(String workshop, String making) {
        UndoTrade x = shop(workshop);
        x.perform(tell(x, 2, making));
        return x;
    }

    static void law(UndoTrade x, String text) {
        int number = tell(x, 1, text);
        due("law " + text, number >= 0, true);
        due("law(" + number + ")", x.law(number), true);
    }

    /** NONE - 1 stands for the exception. */
    static int apprentice(UndoTrade x, int apprentice, int what) {
        try {
            return x.apprentice(apprentice, what);
        } catch (java.util.NoSuchElementException e) {
            return -2;
        }
    }
}
