import java.util.ArrayList;
import java.util.LinkedHashMap;
import java.util.List;
import java.util.Map;
import java.util.Random;

/**
 * Promise 4 over random texts: the document's grammar of laws and makings, followed sign by sign with all that a text
 * can still become. (Of workshops see WorkshopTextTest: their numbers' faults are not where the grammar stops.)
 */
public final class GrammarTest {
    /** What is still to come: signs (a letter behind a quote), a digit that must follow at once (D) or names of rules. */
    private record Rest(String first, Rest next) {
        static Rest of(String signs, Rest next) {
            Rest rest = next;
            String[] all = signs.isEmpty() ? new String[0] : signs.split(" ");
            for (int i = all.length - 1; i >= 0; i--) {
                rest = new Rest(all[i], rest);
            }
            return rest;
        }
    }

    public static void main(String[] args) {
        Random random = new Random(11);
        UndoTrade x = new UndoTrade();
        int sound = 0;
        for (int i = 0; i < 40000 && !Due.anyWrong(); i++) {
            int sort = i % 8 == 0 ? 2 : 1;
            String text = change(grow(sort == 1 ? "LAW" : "M1", random), sort, random);
            if (text.length() > 240) {
                continue;
            }
            if (i % 30 == 0) {
                x = new UndoTrade();
            }
            Due.tape(x, text);
            int fault = x.fault(sort);
            sound += fault == -1 ? 1 : 0;
            Due.due("fault(" + sort + ") of '" + text + "'", fault, stop(sort == 1 ? "LAW" : "M1", text));
        }
        Due.due("both sorts of answers came", sound > 4000 && sound < 36000, true);
        Due.close();
    }

    /** The right sides of a rule; of rules with a number behind the name the number is the depth (or the place). */
    private static String[] sides(String rule) {
        int n = rule.length() > 1 && Character.isDigit(rule.charAt(rule.length() - 1))
                ? Integer.parseInt(rule.replaceAll("\\D", "")) : 0;
        int m = n + 1;
        boolean deeper = n < 6;
        switch (rule.replaceAll("\\d", "")) {
            case "LAW": return new String[] {"'y ': BODY LAWS"};
            case "LAWS": return new String[] {"", "'; LAW"};
            case "BODY": return new String[] {"SUM0", "COND0 '? SUM0"};
            case "COND": return new String[] {"TRUTH" + n + " OR" + n};
            case "OR": return new String[] {"", "'| COND" + n};
            case "TRUTH": return new String[] {"UNIT" + n + " AND" + n};
            case "AND": return new String[] {"", "'& TRUTH" + n};
            case "UNIT":
                String compared = "SUM" + n + " CMP SUM" + n;
                return deeper ? new String[] {compared, "'! UNIT" + m, "'( COND" + m + " ')"} : new String[] {compared};
            case "CMP": return new String[] {"'=", "'<", "'>"};
            case "SUM": return new String[] {"TERM" + n + " ADD" + n};
            case "ADD": return new String[] {"", "'+ SUM" + n, "'- SUM" + n};
            case "TERM": return new String[] {"ATOM" + n + " MUL" + n};
            case "MUL": return new String[] {"", "'* TERM" + n, "'/ TERM" + n};
            case "ATOM":
                String[] plain = {"'w", "'i", "'x", "'n", "'b", "'t", "DIGIT TAIL3"};
                if (!deeper) {
                    return plain;
                }
                String[] more = java.util.Arrays.copyOf(plain, 8);
                more[7] = "'[ SUM" + m + " ']";
                return more;
            case "TAIL": return n == 0 ? new String[] {""} : new String[] {"", "D TAIL" + (n - 1)};
            case "M": return n == 16 ? new String[] {"DEED"} : new String[] {"DEED", "DEED '; M" + m};
            case "DEED": return new String[] {"'p DIGIT DIGIT", "'t DIGIT", "'c DIGIT DIGIT", "'j DIGIT DIGIT", "'h DIGIT"};
            default: throw new IllegalArgumentException(rule);
        }
    }

    private static boolean isRule(String sign) {
        return sign.charAt(0) != '\'' && !sign.equals("D") && !sign.equals("DIGIT");
    }

    /** All rests that begin with a sign (or have ended). */
    private static void open(Rest rest, Map<String, Rest> into) {
        if (rest == null || !isRule(rest.first)) {
            into.put(String.valueOf(rest), rest);
            return;
        }
        for (String side : sides(rest.first)) {
            open(Rest.of(side, rest.next), into);
        }
    }

    private static int stop(String start, String text) {
        Map<String, Rest> now = new LinkedHashMap<>();
        open(new Rest(start, null), now);
        for (int at = 0; at < text.length(); at++) {
            char sign = text.charAt(at);
            Map<String, Rest> then = new LinkedHashMap<>();
            for (Map.Entry<String, Rest> e : now.entrySet()) {
                Rest rest = e.getValue();
                if (sign == ' ') {
                    if (rest == null || !rest.first.equals("D")) {
                        then.put(e.getKey(), rest);
                    }
                } else if (rest != null && matches(rest.first, sign)) {
                    open(rest.next, then);
                }
            }
            if (then.isEmpty()) {
                return at;
            }
            now = then;
        }
        return now.containsKey("null") ? -1 : text.length();
    }

    private static boolean matches(String first, char sign) {
        return first.charAt(0) == '\'' ? first.charAt(1) == sign : Character.isDigit(sign);
    }

    /** A sound text by chance. */
    private static String grow(String start, Random random) {
        StringBuilder text = new StringBuilder();
        List<String> rests = new ArrayList<>(List.of(start));
        while (!rests.isEmpty()) {
            String sign = rests.remove(0);
            if (isRule(sign)) {
                String[] all = sides(sign);
                String side = all[random.nextInt(5) > 1 ? 0 : random.nextInt(all.length)];
                if (sign.startsWith("M") && random.nextInt(9) > 0 && all.length > 1 && !sign.startsWith("MUL")) {
                    side = all[1];
                }
                rests.addAll(0, side.isEmpty() ? List.of() : List.of(side.split(" ")));
                continue;
            }
            if (!sign.equals("D") && random.nextInt(15) == 0) {
                text.append(' ');
            }
            text.append(sign.charAt(0) == '\'' ? sign.charAt(1) : (char) ('0' + random.nextInt(10)));
        }
        return text.toString();
    }

    /** The text with some signs taken out, put in or set otherwise. */
    private static String change(String text, int sort, Random random) {
        String signs = sort == 1 ? "y:;?|&!()=<>+-*/[]12wixnbt !([" : "ptcjh0123456789;; z";
        StringBuilder changed = new StringBuilder(text);
        for (int n = random.nextInt(3); n > 0; n--) {
            int at = random.nextInt(changed.length() + 1);
            String sign = String.valueOf(signs.charAt(random.nextInt(signs.length())));
            int end = Math.min(changed.length(), at + random.nextInt(2));
            changed.replace(at, end, random.nextBoolean() ? sign.repeat(random.nextInt(6) == 0 ? 7 : 1) : "");
        }
        if (sort == 2 && random.nextInt(4) == 0) {
            changed.append(";t0".repeat(random.nextInt(12)));
        }
        return changed.toString();
    }
}
