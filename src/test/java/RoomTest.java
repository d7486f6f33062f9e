import java.lang.management.ManagementFactory;
import java.lang.reflect.Array;
import java.lang.reflect.Field;
import java.lang.reflect.Modifier;
import java.util.ArrayDeque;
import java.util.Collections;
import java.util.IdentityHashMap;
import java.util.Set;

/** What an object holds is made with it: no call makes more, so that a long run stays within its room. */
public final class RoomTest {
    private static long objects;
    private static long elements;

    public static void main(String[] args) throws Exception {
        UndoTrade x = new UndoTrade();
        count(x);
        long objectsOfNew = objects;
        long elementsOfNew = elements;
        Due.due("a hundred objects fit in the room", objects * 100 < 600000 && elements * 100 < 7300000, true);
        texts(x);
        allCalls(x);
        count(x);
        Due.due("no more objects behind many calls", objects <= objectsOfNew, true);
        Due.due("no more elements behind many calls", elements <= elementsOfNew, true);
        callsMakeNothing();
        Due.close();
    }

    private static void count(Object root) throws Exception {
        objects = 0;
        elements = 0;
        Set<Object> met = Collections.newSetFromMap(new IdentityHashMap<>());
        ArrayDeque<Object> open = new ArrayDeque<>();
        open.add(root);
        while (!open.isEmpty()) {
            Object o = open.remove();
            if (!met.add(o)) {
                continue;
            }
            objects++;
            if (o.getClass().isArray()) {
                elements += Array.getLength(o);
                for (int i = 0; i < Array.getLength(o) && !o.getClass().getComponentType().isPrimitive(); i++) {
                    open.add(Array.get(o, i));
                }
                continue;
            }
            for (Field f : o.getClass().getDeclaredFields()) {
                if (Modifier.isStatic(f.getModifiers())) {
                    continue;
                }
                elements++;
                f.setAccessible(true);
                if (!f.getType().isPrimitive() && f.get(o) != null) {
                    open.add(f.get(o));
                }
            }
        }
    }

    private static void texts(UndoTrade x) {
        Due.tell(x, 0, "ak9;sm12;ar0k31");
        Due.tell(x, 1, "y:w=1&!(x>2|i<n)?b*t-9;y:x/n+3");
        Due.tell(x, 2, "p00;p10;p20;t0;c15;j01;j12;h0;t2;c23;t2");
    }

    private static void allCalls(UndoTrade x) {
        x.feed(0x616b3100, 0, 0, 0, 0);
        for (int sort = 0; sort < 3; sort++) {
            x.fault(sort);
        }
        x.end(0);
        x.perform(0);
        x.law(x.count(5) == 0 ? -1 : 0);
        x.haste(x.count(8) == 4 ? 5 : 4);
        ask(x);
        x.years(20, 77);
        ask(x);
        x.image();
        x.enter(0);
        x.forgets(1, 2);
        x.make(0, 5, 5);
        x.undoes(x.count(1) - 1);
        x.takes(1, x.count(1) - 1);
        x.undo();
        x.sell();
        x.back();
    }

    private static void ask(UndoTrade x) {
        int deed = x.count(1) - 1;
        x.apprentice(1, 0);
        x.shape(0, 3);
        x.deed(deed, 0);
        x.log(0, 1);
        x.step(0, 1, 0);
        x.run(0, 0);
        x.alike(0, 0);
        x.cost(deed, 2, 1);
        x.rows();
        x.row(0, deed);
        x.drawn(5, deed);
        x.cheapest(deed);
        x.places(deed, 1);
        x.needs(deed, 0);
        x.sure(0, deed);
        x.alone(3);
        x.stuck(1);
        x.team();
        x.lesson(0);
        x.game(1);
        x.odds(1, 30);
        x.seen(2, 5, true);
        x.args(2);
        x.ask(2);
        x.upon(1);
        for (int what = 0; what < 7; what++) {
            x.all(what);
        }
    }

    /** The least of several rounds counts: the machine itself makes things while it loads. */
    private static void callsMakeNothing() {
        com.sun.management.ThreadMXBean threads = (com.sun.management.ThreadMXBean) ManagementFactory.getThreadMXBean();
        long made = Long.MAX_VALUE;
        for (int round = 0; round < 20; round++) {
            UndoTrade x = new UndoTrade();
            texts(x);
            long before = threads.getCurrentThreadAllocatedBytes();
            allCalls(x);
            allCalls(x);
            made = Math.min(made, threads.getCurrentThreadAllocatedBytes() - before);
        }
        Due.due("bytes that calls make", made, 0);
    }
}
