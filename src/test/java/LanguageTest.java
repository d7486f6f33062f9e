import java.nio.file.Files;
import java.nio.file.Path;
import java.util.ArrayList;
import java.util.List;
import java.util.Set;
import java.util.TreeSet;
import java.util.regex.Matcher;
import java.util.regex.Pattern;

/** What can be seen in the class's source of the rules of LANGUAGE.md. */
public final class LanguageTest {
    private static String code;

    public static void main(String[] args) throws Exception {
        String source = Files.readString(Path.of("src/main/java/UndoTrade.java"));
        Due.due("rule 4: signs 1 to 127 alone", source.chars().allMatch(sign -> sign > 0 && sign < 128), true);
        code = source.replaceAll("(?s)/\\*.*?\\*/", "").replaceAll("//[^\n]*", "").replaceAll("\"[^\"\n]*\"", "\"\"")
                .replaceAll("'.'", "' '");
        imports();
        words();
        library();
        exceptions();
        methods();
        Due.close();
    }

    private static Set<String> found(String pattern) {
        Set<String> all = new TreeSet<>();
        Matcher matcher = Pattern.compile(pattern).matcher(code);
        while (matcher.find()) {
            all.add(matcher.group(1));
        }
        return all;
    }

    private static void imports() {
        Due.due("imports", found("(?m)^import (.*);").toString(), "[java.util.NoSuchElementException]");
        Due.due("rule 1: no package line", found("(?m)^(package)\\b").isEmpty(), true);
    }

    private static void words() {
        String[] out = {"try", "catch", "finally", "synchronized", "assert", "volatile", "native", "transient", "while", "do",
            "float", "double", "equals", "hashCode", "toString", "var", "Object", "protected", "@Override"};
        for (String word : out) {
            Due.due("no " + word, found("(?<!\\w)(" + word + ")\\b").isEmpty(), true);
        }
        Due.due("rule 2: no lambda, no method reference", found("(->|::)").isEmpty(), true);
        Due.due("rule 10: no %= or /= by what may be 0", found("([%/]=)").isEmpty(), true);
    }

    private static void library() {
        Due.due("rule 4: static functions", found("\\b((?:Math|Integer|Long|System|Arrays|String)\\.\\w+)").toString(),
                "[Integer.bitCount, Math.abs, Math.max, Math.min, System.arraycopy]");
        Due.due("rule 12: what is made", found("\\bnew (\\w+)").toString(),
                "[DeedList, Draws, Law, LawBook, LawText, NoSuchElementException, Order, Past, SeenList, State, Tape, boolean, int]");
    }

    /** The document names one exception, and one call that throws it. */
    private static void exceptions() {
        int thrown = code.split("\\bthrow\\b").length - 1;
        Due.due("one throw", thrown, 1);
        int at = code.indexOf("throw new");
        Due.due("in apprentice", code.lastIndexOf("public int apprentice(", at) > code.lastIndexOf("\n    }", at), true);
    }

    private static void methods() {
        String[] lines = code.split("\n");
        Pattern head = Pattern.compile("^( {4}| {8})(?=\\w)[\\w\\[\\] ]*\\([^;]*\\{$");
        List<String> names = new ArrayList<>();
        for (int i = 0; i < lines.length; i++) {
            Matcher matcher = head.matcher(lines[i].replaceAll(" throws \\w+", ""));
            if (!matcher.matches() || lines[i].matches(" *(if|for|switch) .*")) {
                continue;
            }
            int end = i;
            while (end + 1 < lines.length && !lines[end].equals(matcher.group(1) + "}")) {
                end++;
            }
            names.add(lines[i].trim());
            Due.due("rule 11: a short method, " + lines[i].trim(), end - i <= 60, true);
        }
        Due.due("methods were found", names.size() > 120, true);
    }
}
