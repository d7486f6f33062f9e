import java.util.ArrayList;
import java.util.List;
import java.util.Random;
import java.util.regex.Matcher;
import java.util.regex.Pattern;

/**
 * Promises 4 to 6 over random texts of workshops. Where a text stops is told by patterns: a start of a text can go on, if
 * the pattern of whole texts reaches its end; what patterns can't tell (bounds, how many clauses) is counted.
 */
public final class WorkshopTextTest {
    private static final String NUMBER = "[0-9]{1,2} *";
    private static final String KNOWN = "k *" + NUMBER;
    private static final String ROOM = "r *" + NUMBER;
    private static final String CLAUSE =
            "(?:s *(?:m *" + NUMBER + ")?|a *(?:" + KNOWN + "(?:" + ROOM + ")?|" + ROOM + "(?:" + KNOWN + ")?)?)";
    private static final Pattern WHOLE = Pattern.compile(" *" + CLAUSE + "(?:; *" + CLAUSE + ")*");
    private static final Pattern ITEM = Pattern.compile("([mkr]) *([0-9]{1,2})");
    private static final Random RANDOM = new Random(45);

    public static void main(String[] args) {
        int sound = 0;
        UndoTrade x = new UndoTrade();
        for (int i = 0; i < 60000 && !Due.anyWrong(); i++) {
            String text = changed(grown());
            if (i % 40 == 0) {
                x = new UndoTrade();
            }
            Due.tape(x, text);
            int fault = faultOf(text);
            Due.due("P4 fault(0) of '" + text + "'", x.fault(0), fault);
            int before = x.count(0);
            int told = x.text(0);
            if (fault == -1) {
                sound++;
                isAsTold(x, text, told);
            } else {
                Due.due("P5 a FAULT '" + text + "'", told, -1);
                Due.due("P5 the workshop ahead stays", x.count(0), before);
                Due.due("P5 the tape stays", x.count(4), text.length());
            }
        }
        Due.due("both sorts of answers came", sound > 6000 && sound < 54000, true);
        Due.close();
    }

    private static int faultOf(String text) {
        int stop = 0;
        while (stop < text.length() && goesOn(text.substring(0, stop + 1))) {
            stop++;
        }
        int first = Math.min(stop, Math.min(placeOf(text, 's', 2), placeOf(text, 'a', 5)));
        Matcher item = ITEM.matcher(text);
        while (item.find()) {
            boolean goesFurther = item.end() < text.length() && Character.isDigit(text.charAt(item.end()));
            if (item.end() <= stop && !goesFurther && isOutside(item)) {
                first = Math.min(first, item.end() - 1);
            }
        }
        boolean ended = WHOLE.matcher(text).matches() && text.indexOf('a') >= 0;
        return first == text.length() && ended ? -1 : first;
    }

    private static boolean goesOn(String start) {
        Matcher matcher = WHOLE.matcher(start);
        return matcher.matches() || matcher.hitEnd();
    }

    private static boolean isOutside(Matcher item) {
        int number = Integer.parseInt(item.group(2));
        return switch (item.group(1)) {
            case "m" -> number < 1 || number > 12;
            case "k" -> number > 31;
            default -> number > 1;
        };
    }

    /** Where the sign stands for the n-th time; far away: not so often. */
    private static int placeOf(String text, char sign, int n) {
        int at = -1;
        for (int i = 0; i < n; i++) {
            at = text.indexOf(sign, at + 1);
            if (at < 0) {
                return Integer.MAX_VALUE;
            }
        }
        return at;
    }

    private static void isAsTold(UndoTrade x, String text, int told) {
        List<int[]> apprentices = new ArrayList<>();
        int most = 12;
        for (String clause : text.replace(" ", "").split(";")) {
            if (clause.charAt(0) == 's') {
                most = itemOf(clause, 'm', 12);
            } else {
                apprentices.add(new int[] {itemOf(clause, 'k', 0), itemOf(clause, 'r', 1)});
            }
        }
        Due.due("P5 how many APPRENTICES '" + text + "'", told, apprentices.size());
        Due.due("P45 likewise", x.count(0), apprentices.size());
        Due.due("P45 how many DEEDS there may be '" + text + "'", x.count(7), most);
        Due.due("P5 the tape is empty then", x.count(4), 0);
        for (int a = 0; a < apprentices.size(); a++) {
            Due.due("P6 KNOWS '" + text + "' " + a, Due.apprentice(x, a, 0), apprentices.get(a)[0]);
            Due.due("P6 ROOM '" + text + "' " + a, Due.apprentice(x, a, 1), apprentices.get(a)[1]);
        }
        Due.due("P6 no such one", Due.apprentice(x, apprentices.size(), 0), -2);
    }

    private static int itemOf(String clause, char letter, int without) {
        int at = clause.indexOf(letter);
        return at < 0 ? without : Integer.parseInt(clause.substring(at + 1).replaceAll("[^0-9].*", ""));
    }

    /** A text that is mostly sound. */
    private static String grown() {
        StringBuilder text = new StringBuilder();
        int clauses = 1 + RANDOM.nextInt(RANDOM.nextInt(8) == 0 ? 7 : 4);
        int ruled = RANDOM.nextInt(2 * clauses);
        for (int i = 0; i < clauses; i++) {
            put(text, i == 0 ? "" : ";");
            if (i == ruled) {
                put(text, "s");
                item(text, "m", 13);
                continue;
            }
            put(text, "a");
            boolean roomFirst = RANDOM.nextBoolean();
            if (roomFirst) {
                item(text, "r", 2);
            }
            item(text, "k", 33);
            if (!roomFirst) {
                item(text, "r", 2);
            }
        }
        return text.toString();
    }

    private static void item(StringBuilder text, String letter, int beyond) {
        if (RANDOM.nextInt(3) == 0) {
            return;
        }
        put(text, letter);
        int number = RANDOM.nextInt(20) == 0 ? RANDOM.nextInt(110) : RANDOM.nextInt(beyond);
        put(text, (number < 10 && RANDOM.nextInt(6) == 0 ? "0" : "") + number);
    }

    private static void put(StringBuilder text, String signs) {
        text.append(signs).append(RANDOM.nextInt(12) == 0 ? " " : "");
    }

    /** The text with up to two signs taken out, put in or set otherwise. */
    private static String changed(String text) {
        String signs = "sakmr;0123 9z";
        StringBuilder now = new StringBuilder(text);
        for (int n = RANDOM.nextInt(3); n > 0; n--) {
            int at = RANDOM.nextInt(now.length() + 1);
            int end = Math.min(now.length(), at + RANDOM.nextInt(2));
            int sign = RANDOM.nextInt(signs.length());
            now.replace(at, end, RANDOM.nextBoolean() ? signs.substring(sign, sign + 1) : "");
        }
        return now.toString();
    }
}
