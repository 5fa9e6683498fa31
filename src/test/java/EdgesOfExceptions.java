import java.util.LinkedHashMap;
import java.util.Map;

/** What is refused, in which order, and that a refused call changes nothing. */
final class EdgesOfExceptions {
    private EdgesOfExceptions() {
    }

    static void all(Edge edge) {
        for (Map.Entry<String, Edge.Maker> stand : stands().entrySet()) {
            noSuchThing(edge, stand.getKey(), stand.getValue());
            noSuchAxis(edge, stand.getKey(), stand.getValue());
            changesNothing(edge, stand.getKey(), stand.getValue());
        }
        orderOfThree(edge);
        orderOfIndexAndState(edge);
        orderOfIndexAndArgument(edge);
        orderOfStateAndArgument(edge);
    }

    private static Map<String, Edge.Maker> stands() {
        Map<String, Edge.Maker> stands = new LinkedHashMap<>();
        stands.put("empty", Stands::empty);
        stands.put("bare", Stands::bare);
        stands.put("ordinary", Stands::ordinary);
        stands.put("full", Stands::full);
        stands.put("full pad", Stands::fullPad);
        return stands;
    }

    /** Those beside the numbers 0 to count - 1, and those far away. */
    private static int[] beside(int count) {
        return new int[] {-1, count, Integer.MIN_VALUE, Integer.MAX_VALUE};
    }

    private static void noSuchThing(Edge edge, String name, Edge.Maker maker) {
        edge.sentence("Terms", "EXCEPTIONS: IndexOutOfBoundsException: there is no such mark");
        for (int i : beside(maker.make().count(0))) {
            edge.idle(name + ": no mark " + i, Edge.INDEX, maker, x -> x.observe(i, 0, 0, 0));
        }
        for (int i : beside(maker.make().count(1))) {
            edge.idle(name + ": no observation " + i + " to use", Edge.INDEX, maker, x -> x.use(i, true));
            edge.idle(name + ": no observation " + i + " to leave out", Edge.INDEX, maker, x -> x.use(i, false));
            edge.idle(name + ": no observation " + i + " with a prism", Edge.INDEX, maker, x -> x.prism(i, 1));
            edge.idle(name + ": no observation " + i + " to miss", Edge.INDEX, maker, x -> x.residual(i, 0));
        }
        for (int i : beside(maker.make().count(3))) {
            edge.idle(name + ": no point " + i, Edge.INDEX, maker, x -> x.place(i, 0));
        }
        for (int i : beside(maker.make().count(4))) {
            int row = i == -1 ? -2 : i;
            edge.idle(name + ": no row " + row, Edge.INDEX, maker, x -> x.closed(row));
        }
    }

    private static void noSuchAxis(Edge edge, String name, Edge.Maker maker) {
        edge.sentence("Terms", "EXCEPTIONS: IndexOutOfBoundsException: there is no such mark");
        for (int axis : beside(3)) {
            edge.idle(name + ": no axis " + axis + " to miss along", Edge.INDEX, maker, x -> x.residual(0, axis));
            edge.idle(name + ": no axis " + axis + " of a place", Edge.INDEX, maker, x -> x.place(0, axis));
        }
    }

    /** Calls that are refused whatever the state is. */
    private static Map<String, Edge.Call> refused() {
        Map<String, Edge.Call> calls = new LinkedHashMap<>();
        calls.put("mark, x", x -> x.mark(10001, 5, 5));
        calls.put("mark, z", x -> x.mark(5, 5, -10001));
        calls.put("observe, mark -1", x -> x.observe(-1, 5, 5, 5));
        calls.put("observe, mark 12", x -> x.observe(12, 5, 5, 5));
        calls.put("observe, u", x -> x.observe(0, 10001, 5, 5));
        calls.put("observe, w", x -> x.observe(0, 5, 5, -10001));
        calls.put("prism, observation -1", x -> x.prism(-1, 5));
        calls.put("prism, observation 20", x -> x.prism(20, 5));
        calls.put("prism below 0", x -> x.prism(0, -1));
        calls.put("prism above 3000", x -> x.prism(0, 3001));
        calls.put("use, observation -1", x -> x.use(-1, false));
        calls.put("use, observation 20", x -> x.use(20, false));
        calls.put("turned -1", x -> x.turned(-1));
        calls.put("turned 4", x -> x.turned(4));
        calls.put("residual, observation 20", x -> x.residual(20, 0));
        calls.put("residual, axis 3", x -> x.residual(0, 3));
        calls.put("blunders -1", x -> x.blunders(-1));
        calls.put("blunders 100001", x -> x.blunders(100001));
        calls.put("point, v", x -> x.point(5, 10001, 5));
        calls.put("place, point 30", x -> x.place(30, 0));
        calls.put("place, axis 3", x -> x.place(0, 3));
        calls.put("level, difference", x -> x.level(100001, 5));
        calls.put("level, length", x -> x.level(5, 0));
        calls.put("closed -2", x -> x.closed(-2));
        calls.put("closed 12", x -> x.closed(12));
        calls.put("unit, the first sign", x -> x.unit(0x30303041, 0x30303030));
        calls.put("unit, the last sign", x -> x.unit(0x30303030, 0x41303030));
        calls.put("count 6", x -> x.count(6));
        return calls;
    }

    private static void changesNothing(Edge edge, String name, Edge.Maker maker) {
        edge.sentence("Terms", "Such a call changes nothing.");
        for (Map.Entry<String, Edge.Call> call : refused().entrySet()) {
            String want = Check.answerOf(() -> call.getValue().on(maker.make()));
            edge.due(name + ": refused: " + call.getKey(), true, () -> want.startsWith("throws."));
            edge.idle(name + ": " + call.getKey(), want, maker, call.getValue());
        }
    }

    private static void orderOfThree(Edge edge) {
        edge.sentence("Terms", "IllegalStateException, then IllegalArgumentException, as told.");
        edge.idle("observe: mark", Edge.INDEX, Stands::bare, x -> x.observe(3, 0, 0, 0));
        edge.idle("observe: argument", Edge.ARGUMENT, Stands::bare, x -> x.observe(0, 0, 10001, 0));
        edge.idle("observe: mark, argument", Edge.INDEX, Stands::bare, x -> x.observe(3, 0, 10001, 0));
        edge.idle("observe: state", Edge.STATE, Stands::full, x -> x.observe(0, 0, 0, 0));
        edge.idle("observe: state, argument", Edge.STATE, Stands::full, x -> x.observe(0, 0, 10001, 0));
        edge.idle("observe: mark, state", Edge.INDEX, Stands::full, x -> x.observe(12, 0, 0, 0));
        edge.idle("observe: all three", Edge.INDEX, Stands::full, x -> x.observe(12, 0, 10001, 0));
    }

    private static void orderOfIndexAndState(Edge edge) {
        edge.sentence("Terms", "IllegalStateException, then IllegalArgumentException, as told.");
        edge.idle("turned: what", Edge.INDEX, Stands::ordinary, x -> x.turned(4));
        edge.idle("turned: state", Edge.STATE, Stands::bare, x -> x.turned(3));
        edge.idle("turned: what, state", Edge.INDEX, Stands::bare, x -> x.turned(4));
        edge.idle("residual: told later", Edge.INDEX, Stands::ordinary, x -> x.residual(4, 0));
        edge.idle("residual: state", Edge.STATE, Stands::bare, x -> x.residual(3, 2));
        edge.idle("residual: observation, state", Edge.INDEX, Stands::bare, x -> x.residual(4, 2));
        edge.idle("residual: axis, state", Edge.INDEX, Stands::bare, x -> x.residual(3, 3));
        edge.idle("residual: both, state", Edge.INDEX, Stands::bare, x -> x.residual(4, 3));
        edge.idle("place: point", Edge.INDEX, Stands::ordinary, x -> x.place(2, 0));
        edge.idle("place: state", Edge.STATE, Stands::bare, x -> x.place(1, 2));
        edge.idle("place: point, state", Edge.INDEX, Stands::bare, x -> x.place(2, 2));
        edge.idle("place: axis, state", Edge.INDEX, Stands::bare, x -> x.place(1, 3));
        edge.idle("place: both, state", Edge.INDEX, Stands::bare, x -> x.place(2, 3));
    }

    private static void orderOfIndexAndArgument(Edge edge) {
        edge.sentence("Terms", "IllegalStateException, then IllegalArgumentException, as told.");
        edge.idle("prism: observation", Edge.INDEX, Stands::bare, x -> x.prism(4, 3000));
        edge.idle("prism: argument", Edge.ARGUMENT, Stands::bare, x -> x.prism(3, 3001));
        edge.idle("prism: both", Edge.INDEX, Stands::bare, x -> x.prism(4, 3001));
        edge.idle("prism: both, below", Edge.INDEX, Stands::bare, x -> x.prism(-1, -1));
    }

    private static void orderOfStateAndArgument(Edge edge) {
        edge.sentence("Terms", "IllegalStateException, then IllegalArgumentException, as told.");
        edge.idle("mark: argument", Edge.ARGUMENT, Stands::bare, x -> x.mark(0, 10001, 0));
        edge.idle("mark: state", Edge.STATE, Stands::full, x -> x.mark(0, 0, 0));
        edge.idle("mark: both", Edge.STATE, Stands::full, x -> x.mark(0, 10001, 0));
        edge.idle("point: argument", Edge.ARGUMENT, Stands::bare, x -> x.point(0, 10001, 0));
        edge.idle("point: state", Edge.STATE, Stands::full, x -> x.point(0, 0, 0));
        edge.idle("point: both", Edge.STATE, Stands::full, x -> x.point(0, 10001, 0));
        edge.idle("level: argument", Edge.ARGUMENT, Stands::bare, x -> x.level(0, 0));
        edge.idle("level: state", Edge.STATE, Stands::full, x -> x.level(0, 1));
        edge.idle("level: both", Edge.STATE, Stands::full, x -> x.level(0, 0));
        edge.idle("unit: argument", Edge.ARGUMENT, Stands::bare, x -> x.unit('A', 0));
        edge.idle("unit: state", Edge.STATE, Stands::fullPad, x -> x.unit('0', 0));
        edge.idle("unit: both", Edge.STATE, Stands::fullPad, x -> x.unit('A', 0));
        edge.idle("unit: both, behind a good one", Edge.STATE, Stands::fullPad, x -> x.unit('0', 'A'));
    }
}
