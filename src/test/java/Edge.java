import java.util.ArrayList;
import java.util.LinkedHashMap;
import java.util.List;
import java.util.Map;
import java.util.TreeSet;

/**
 * What the tests of the boundary cases share: a call behind a script on a new object, and, where it is refused or only
 * asks, that the object is afterwards as one on which the call was never made. Each side of an object is read on a new
 * one, so that no object has more than 512 calls.
 */
final class Edge {
    interface Script {
        void on(UndoTrade x);
    }

    interface Call {
        long of(UndoTrade x);
    }

    interface Side {
        String of(UndoTrade x);
    }

    private static final Map<String, Side> SIDES = sides();
    private static final Map<String, Side> SINGLE_SIDES = singleSides();

    private Edge() {
    }

    // ---- checks ----

    static void answers(String sentence, Script script, Call call, long due) {
        UndoTrade x = new UndoTrade();
        script.on(x);
        Due.due(sentence, call.of(x), due);
    }

    /** The call answers so and changes nothing. */
    static void refused(String sentence, Script script, long due, Call... calls) {
        for (int i = 0; i < calls.length; i++) {
            String name = calls.length == 1 ? sentence : sentence + ", call " + i;
            answers(name, script, calls[i], due);
            changesNothing(name, script, calls[i]);
        }
    }

    static void changesNothing(String sentence, Script script, Call... calls) {
        for (Call call : calls) {
            same(sentence, script, call, SIDES);
        }
    }

    /** As refused, for scripts that leave few of the 512 calls. */
    static void refusedLate(String sentence, Script script, long due, Call call) {
        answers(sentence, script, call, due);
        same(sentence, script, call, SINGLE_SIDES);
    }

    private static void same(String sentence, Script script, Call call, Map<String, Side> sides) {
        for (Map.Entry<String, Side> side : sides.entrySet()) {
            UndoTrade called = new UndoTrade();
            script.on(called);
            call.of(called);
            UndoTrade twin = new UndoTrade();
            script.on(twin);
            Due.due(sentence + " changes " + side.getKey(), side.getValue().of(called), side.getValue().of(twin));
        }
    }

    /** Numbers outside the bounds: the nearest ones, the farthest, and some that shifts and wraps would bring within. */
    static int[] outside(int least, int most) {
        TreeSet<Integer> found = new TreeSet<>(List.of(Integer.MIN_VALUE, Integer.MAX_VALUE, least - 1, least - 2, most + 1,
                most + 2, least + 32, most + 32, -32, 256, 65536, 1 << 30));
        found.removeIf(v -> v >= least && v <= most);
        return found.stream().mapToInt(Integer::intValue).toArray();
    }

    // ---- scripts ----

    static void nothing(UndoTrade x) {
    }

    static Script shop(String workshop) {
        return x -> Due.tell(x, 0, workshop);
    }

    static Script made(String workshop, String making) {
        return x -> {
            Due.tell(x, 0, workshop);
            x.perform(Due.tell(x, 2, making));
        };
    }

    static Script then(Script first, Script second) {
        return x -> {
            first.on(x);
            second.on(x);
        };
    }

    /** A law, a making, no workshop. */
    static void textsAlone(UndoTrade x) {
        Due.tell(x, 1, "y:x*3+w");
        Due.tell(x, 2, "p00;p10;t0");
        x.law(0);
        x.haste(6);
        Due.tape(x, "ak7");
    }

    /**
     * All there can be: three apprentices, two laws and two makings, eight deeds, a log, seen costs, an image, acts to be
     * undone, half a text on the tape. The deeds: p00 p10 t0 c13 j01 c09 h0 p24.
     */
    static void busy(UndoTrade x) {
        Due.tell(x, 1, "y:x*3+w");
        Due.tell(x, 1, "y:w=b?t;y:x+n");
        Due.tell(x, 2, "p00;p10;t0;c13;j01;c09;h0");
        Due.tell(x, 2, "p24;t2;p35");
        Due.tell(x, 0, "sm9;ak3;ar0k31;ak5");
        x.law(1);
        x.perform(0);
        x.undoes(6);
        x.make(4, 0, 0);
        x.enter(2);
        x.seen(0, 4, true);
        x.seen(2, 7, false);
        x.image();
        x.make(0, 2, 4);
        x.forgets(1, 0);
        x.haste(5);
        Due.tape(x, "ak7;");
    }

    // ---- sides of an object ----

    private static Map<String, Side> sides() {
        Map<String, Side> sides = new LinkedHashMap<>();
        sides.put("counts", Edge::counts);
        sides.put("apprentices", Edge::apprentices);
        sides.put("shapes", x -> table(6, 6, x::shape));
        sides.put("deeds", x -> table(12, 3, x::deed));
        sides.put("log", x -> table(61, 2, x::log));
        sides.put("steps of 0 and 1", x -> table(17, 3, (i, what) -> x.step(0, i, what))
                + table(17, 3, (i, what) -> x.step(1, i, what)));
        sides.put("steps of 2 and 3", x -> table(17, 3, (i, what) -> x.step(2, i, what))
                + table(17, 3, (i, what) -> x.step(3, i, what)));
        sides.put("what was seen", x -> table(2, 5, (what, sort) -> what == 0 ? x.args(sort) : x.ask(sort)));
        sides.put("laws", Edge::laws);
        sides.put("rows and the game", Edge::rowsAndGame);
        sides.put("tape", Edge::tape);
        sides.put("tape as texts", x -> "" + x.text(0) + x.text(1) + x.text(2));
        sides.put("acts to be undone", Edge::undone);
        sides.put("image", x -> x.back() + counts(x) + apprentices(x) + table(12, 3, x::deed) + table(20, 2, x::log));
        sides.put("haste", x -> x.years(20, 5) + table(12, 3, x::deed));
        sides.put("what goes on", x -> x.make(0, 5, 5) + " " + x.undoes(1) + x.sell() + x.perform(0) + counts(x));
        return sides;
    }

    private static Map<String, Side> singleSides() {
        Map<String, Side> sides = new LinkedHashMap<>();
        for (int what = 0; what < 12; what++) {
            int w = what;
            sides.put("count(" + w + ")", x -> "" + x.count(w));
        }
        for (int a = 0; a < 4; a++) {
            int apprentice = a;
            sides.put("apprentice " + a, x -> Due.apprentice(x, apprentice, 0) + " " + Due.apprentice(x, apprentice, 1));
        }
        for (int d = 0; d < 4; d++) {
            int deed = d;
            sides.put("deed " + d, x -> x.deed(deed, 0) + " " + x.deed(deed, 1));
        }
        sides.put("the latest of the log", x -> x.log(0, 0) + " " + x.log(0, 1));
        sides.put("acts to be undone", x -> x.undo() + " " + x.count(6));
        return sides;
    }

    private interface Cell {
        int of(int row, int column);
    }

    private static String table(int rows, int columns, Cell cell) {
        StringBuilder text = new StringBuilder();
        for (int row = 0; row < rows; row++) {
            List<Integer> line = new ArrayList<>();
            for (int column = 0; column < columns; column++) {
                line.add(cell.of(row, column));
            }
            text.append(line);
        }
        return text.toString();
    }

    static String counts(UndoTrade x) {
        return table(1, 12, (row, what) -> x.count(what));
    }

    private static String apprentices(UndoTrade x) {
        return table(5, 2, (a, what) -> Due.apprentice(x, a, what));
    }

    /** What each law makes of the deeds. */
    private static String laws(UndoTrade x) {
        StringBuilder text = new StringBuilder();
        for (int law = -1; law < 4; law++) {
            text.append(x.law(law)).append(table(12, 2, (deed, n) -> x.cost(deed, n, 4 + n % 2)));
        }
        return text.toString();
    }

    private static String rowsAndGame(UndoTrade x) {
        return x.game(0) + " " + x.game(1) + " " + x.rows() + " " + x.cheapest(-1) + " " + x.game(0) + " " + x.team()
                + table(12, 3, (at, what) -> what == 0 ? x.row(1, at) : what == 1 ? x.drawn(8, at) : x.cheapest(at))
                + table(12, 4, (deed, what) -> what < 2 ? x.places(deed, what) : x.needs(deed, what - 2))
                + table(1, 7, (row, what) -> x.all(what)) + table(1, 16, (row, some) -> x.stuck(some));
    }

    /** Its length and the faults of how it begins. */
    private static String tape(UndoTrade x) {
        StringBuilder text = new StringBuilder();
        int length = x.count(4);
        for (int n = length; n >= 0 && n > length - 60; n--) {
            text.append(x.end(n)).append(x.fault(0)).append(' ').append(x.fault(1)).append(' ').append(x.fault(2));
        }
        return text.toString();
    }

    private static String undone(UndoTrade x) {
        StringBuilder text = new StringBuilder();
        for (int i = 0; i < 42; i++) {
            text.append(x.undo()).append(' ').append(x.count(1)).append(' ').append(x.count(6)).append(' ')
                    .append(x.count(10)).append(' ').append(Due.apprentice(x, i % 3, 0)).append(';');
        }
        return text.toString();
    }
}
