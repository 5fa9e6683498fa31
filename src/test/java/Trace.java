import java.util.ArrayList;
import java.util.List;

/** All that can be seen of an object, as lines; two objects in one state have the same lines. */
final class Trace {
    private final StationRounds x;
    private final List<String> lines = new ArrayList<>();

    private Trace(StationRounds x) {
        this.x = x;
    }

    /** What it tells; it is as before then. */
    static List<String> told(StationRounds x) {
        Trace trace = new Trace(x);
        trace.counts();
        trace.setUpAndPlaces();
        trace.closedRows();
        trace.usedAndPrisms();
        return trace.lines;
    }

    /** What shows only by using it up: the pad's signs, the marks, and what a new set-up goes by. */
    static List<String> held(StationRounds x) {
        Trace trace = new Trace(x);
        trace.line("unit ';'", () -> x.unit(';', 0));
        trace.line("read", () -> x.read());
        for (int i = 0, marks = x.count(0); i < marks; i++) {
            int mark = i;
            trace.line("observe " + i, () -> x.observe(mark, 700 * mark, mark * mark, 3 * mark));
        }
        for (int i = 0, observations = x.count(1); i < observations; i++) {
            int observation = i;
            trace.line("use " + i, () -> x.use(observation, true));
        }
        trace.line("setUp", () -> x.setUp());
        trace.setUpAndPlaces();
        trace.line("mark", () -> x.mark(1, 2, 3));
        trace.line("point", () -> x.point(1, 2, 3));
        trace.line("level", () -> x.level(1, 2));
        trace.line("open", () -> x.open());
        return trace.lines;
    }

    /** The first line that differs, or "none". */
    static String difference(List<String> want, List<String> got) {
        for (int i = 0; i < want.size() && i < got.size(); i++) {
            if (!want.get(i).equals(got.get(i))) {
                return got.get(i) + " and not " + want.get(i);
            }
        }
        return want.size() == got.size() ? "none" : got.size() + " lines and not " + want.size();
    }

    private void line(String what, Check.Call call) {
        lines.add(what + ": " + Check.answerOf(call));
    }

    private void counts() {
        for (int i = 0; i < 6; i++) {
            int what = i;
            line("count " + i, () -> x.count(what));
        }
    }

    private void setUpAndPlaces() {
        for (int i = 0; i < 4; i++) {
            int what = i;
            line("turned " + i, () -> x.turned(what));
        }
        line("sum", () -> x.sum());
        for (int i = 0, ends = 3 * x.count(1); i < ends; i++) {
            int at = i;
            line("residual " + i / 3 + ", " + i % 3, () -> x.residual(at / 3, at % 3));
        }
        for (int i = 0, ends = 3 * x.count(3); i < ends; i++) {
            int at = i;
            line("place " + i / 3 + ", " + i % 3, () -> x.place(at / 3, at % 3));
        }
    }

    private void closedRows() {
        for (int i = -1, rows = x.count(4); i < rows; i++) {
            int row = i;
            line("closed " + i, () -> x.closed(row));
        }
    }

    private void usedAndPrisms() {
        for (int i = 0, observations = x.count(1); i < observations; i++) {
            boolean wasUsed = !x.use(i, true);
            x.use(i, wasUsed);
            int height = x.prism(i, 0);
            x.prism(i, height);
            lines.add("observation " + i + ": used " + wasUsed + ", prism " + height);
        }
    }
}
