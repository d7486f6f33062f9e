import java.lang.reflect.Method;
import java.nio.file.Files;
import java.nio.file.Path;
import java.util.Arrays;
import java.util.regex.Matcher;
import java.util.regex.Pattern;

/** The example in README.md: each call answers what stands behind it. */
public final class ReadmeTest {
    private static final Pattern CALL = Pattern.compile("x\\.(\\w+)\\((.*?)\\); *// (-?\\d+|true|false)\\b.*");

    public static void main(String[] args) throws Exception {
        UndoTrade x = new UndoTrade();
        int calls = 0;
        for (String line : Files.readAllLines(Path.of("README.md"))) {
            Matcher call = CALL.matcher(line);
            if (call.matches()) {
                Object[] values = values(call.group(2));
                Due.due(line, String.valueOf(method(call.group(1)).invoke(x, values)), call.group(3));
                calls++;
            } else if (line.startsWith("x.")) {
                Due.due(line + " has an answer", false, true);
            }
        }
        Due.due("calls of the example", calls > 30, true);
        Due.close();
    }

    private static Method method(String name) {
        return Arrays.stream(UndoTrade.class.getMethods()).filter(m -> m.getName().equals(name)).findFirst().orElseThrow();
    }

    private static Object[] values(String list) {
        return list.isEmpty() ? new Object[0] : Arrays.stream(list.split(", ")).map(Integer::decode).toArray();
    }
}
