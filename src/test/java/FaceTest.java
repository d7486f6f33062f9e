import java.lang.reflect.Constructor;
import java.lang.reflect.Field;
import java.lang.reflect.Method;
import java.lang.reflect.Modifier;
import java.util.Arrays;
import java.util.HashSet;
import java.util.Random;
import java.util.Set;
import java.util.TreeSet;

/** The face as the document has it, and no exception but the document's, for any arguments in any state. */
public final class FaceTest {
    private static final String FACE = """
            int feed(int,int,int,int,int) boolean end(int) int fault(int) int text(int) int apprentice(int,int)
            int shape(int,int) int deed(int,int) boolean law(int) boolean haste(int) int make(int,int,int)
            int undoes(int) int takes(int,int) int enter(int) int forgets(int,int) int sell() int years(int,long)
            int undo() int log(int,int) int step(int,int,int) int run(int,int) int perform(int) int alike(int,int)
            int cost(int,int,int) int rows() int row(int,int) int drawn(long,int) int cheapest(int) int places(int,int)
            int needs(int,int) int sure(int,int) int alone(int) int stuck(int) int team() int lesson(int) int game(int)
            int odds(int,int) int seen(int,int,boolean) int args(int) int ask(int) int upon(int) int all(int) int image()
            int back() int count(int)""";

    public static void main(String[] args) throws Exception {
        methods();
        fields();
        nested();
        constructors();
        anyArguments();
        Due.close();
    }

    private static void methods() {
        Set<String> due = new TreeSet<>(Arrays.asList(FACE.replaceAll("\\s+(?=int |boolean )", ";").split(";")));
        Set<String> found = new TreeSet<>();
        for (Method m : UndoTrade.class.getDeclaredMethods()) {
            if (Modifier.isPrivate(m.getModifiers())) {
                continue;
            }
            Due.due(m + " is public", Modifier.isPublic(m.getModifiers()), true);
            Due.due(m + " is of an object", Modifier.isStatic(m.getModifiers()), false);
            Due.due(m + " throws", m.getExceptionTypes().length, m.getName().equals("apprentice") ? 1 : 0);
            String types = String.join(",", Arrays.stream(m.getParameterTypes()).map(Class::getName).toList());
            found.add(m.getReturnType() + " " + m.getName() + "(" + types + ")");
        }
        if (!due.equals(found)) {
            System.out.println("due:   " + due + "\nfound: " + found);
        }
        Due.due("the methods", due.equals(found), true);
    }

    private static void fields() {
        Set<String> found = new HashSet<>();
        for (Field f : UndoTrade.class.getDeclaredFields()) {
            if (!Modifier.isPrivate(f.getModifiers())) {
                found.add(f.getName());
            }
        }
        Due.due("the constants alone", found.equals(Set.of("NONE", "HIDDEN")), true);
        Due.due("NONE", UndoTrade.NONE, -1);
        Due.due("HIDDEN", UndoTrade.HIDDEN, -1000000);
    }

    private static void nested() {
        Set<String> names = new HashSet<>();
        for (Method m : UndoTrade.class.getDeclaredMethods()) {
            if (Modifier.isPublic(m.getModifiers())) {
                names.add(m.getName());
            }
        }
        Class<?>[] all = UndoTrade.class.getDeclaredClasses();
        Due.due("twelve classes at most", all.length <= 12, true);
        ownRules(UndoTrade.class, names);
        for (Class<?> c : all) {
            Due.due(c + " is static", Modifier.isStatic(c.getModifiers()), true);
            Due.due(c + " is not public", Modifier.isPublic(c.getModifiers()), false);
            ownRules(c, names);
        }
    }

    private static void ownRules(Class<?> c, Set<String> names) {
        int fields = 0;
        for (Field f : c.getDeclaredFields()) {
            boolean isStatic = Modifier.isStatic(f.getModifiers());
            Due.due(f + " is final if static", !isStatic || Modifier.isFinal(f.getModifiers()), true);
            fields += isStatic ? 0 : 1;
        }
        Due.due("fields of " + c, fields <= 20, true);
        for (Method m : c.getDeclaredMethods()) {
            Due.due(m + " has at most seven parameters", m.getParameterCount() <= 7, true);
            if (!Modifier.isPublic(m.getModifiers())) {
                Due.due(m + " bears the name of a public one", names.contains(m.getName()), false);
            }
        }
    }

    private static void constructors() {
        Constructor<?>[] all = UndoTrade.class.getDeclaredConstructors();
        Due.due("one constructor", all.length, 1);
        Due.due("public", Modifier.isPublic(all[0].getModifiers()), true);
        Due.due("without parameters", all[0].getParameterCount(), 0);
        Due.due("final class", Modifier.isFinal(UndoTrade.class.getModifiers()), true);
    }

    private static final int[] EDGES = {Integer.MIN_VALUE, -1000000, -33, -2, -1, 0, 1, 2, 3, 4, 5, 6, 9, 10, 11, 12, 16,
        31, 32, 59, 60, 63, 64, 99, 100, 240, 9999, 1 << 30, Integer.MAX_VALUE};

    private static void anyArguments() throws Exception {
        Random random = new Random(3);
        String[] texts = {"ak9;sm12;ar0k31;a", "y:w=1&!(x>2|i<n)?b*t-9;y:x/n", "p00;p10;p20;t0;c15;j01;j12;h0;t2", "y:x", "a"};
        for (int run = 0; run < 700; run++) {
            UndoTrade x = new UndoTrade();
            for (int i = 0; i < 300; i++) {
                if (random.nextInt(12) == 0) {
                    int which = random.nextInt(texts.length);
                    Due.tell(x, random.nextInt(10) == 0 ? which : which == 4 ? 0 : which == 3 ? 1 : which, texts[which]);
                }
                Method[] all = UndoTrade.class.getDeclaredMethods();
                Method m = all[random.nextInt(all.length)];
                if (Modifier.isPublic(m.getModifiers())) {
                    tryCall(x, m, random);
                }
            }
        }
    }

    private static void tryCall(UndoTrade x, Method m, Random random) throws Exception {
        Class<?>[] types = m.getParameterTypes();
        Object[] values = new Object[types.length];
        for (int i = 0; i < types.length; i++) {
            int value = random.nextBoolean() ? random.nextInt(6) : EDGES[random.nextInt(EDGES.length)];
            values[i] = types[i] == boolean.class ? (Object) random.nextBoolean()
                    : types[i] == long.class ? (Object) random.nextLong() : (Object) value;
        }
        try {
            m.invoke(x, values);
        } catch (java.lang.reflect.InvocationTargetException e) {
            boolean due = m.getName().equals("apprentice") && e.getCause() instanceof java.util.NoSuchElementException;
            if (!due) {
                e.getCause().printStackTrace(System.out);
            }
            Due.due(m.getName() + Arrays.toString(values) + " throws only what is due", due, true);
        }
    }
}
