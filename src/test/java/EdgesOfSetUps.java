import java.util.ArrayList;
import java.util.List;

/** Set-ups, their parts, what the observations miss by, and the sum of the squares. */
final class EdgesOfSetUps {
    private static final String LEAST = "SET UP by all n used observations";

    private EdgesOfSetUps() {
    }

    static void all(Edge edge) {
        leastSquaresAlongLine(edge);
        leastSquaresAlongBoth(edge);
        height(edge);
        tooFewToSetUp(edge);
        justEnoughToSetUp(edge);
        placesAreAsMade(edge);
        residualIsAsThen(edge);
        howManySetUp(edge);
        formerSetUpStays(edge);
        millionthsRoundedDown(edge);
        farthestParts(edge);
        turnedRefuses(edge);
        residualAlongAxes(edge);
        residualRefuses(edge);
        toldLater(edge);
        sumOfSquares(edge);
        sumRefuses(edge);
    }

    /** Two observations, 0 of a mark at 0 seen at 0, and 1 of a mark at x, y seen at u, v. */
    private static StationRounds pair(int x, int y, int u, int v) {
        StationRounds pair = new StationRounds();
        pair.mark(0, 0, 0);
        pair.mark(x, y, 0);
        pair.observe(0, 0, 0, 0);
        pair.observe(1, u, v, 0);
        return pair;
    }

    private static String partsOf(StationRounds x) {
        return x.turned(0) + " " + x.turned(1) + " " + x.turned(2) + " " + x.turned(3);
    }

    private static String missesOf(StationRounds x, int observation) {
        return x.residual(observation, 0) + " " + x.residual(observation, 1) + " " + x.residual(observation, 2);
    }

    private static void leastSquaresAlongLine(Edge edge) {
        edge.sentence("Terms", LEAST);
        StationRounds x = pair(0, 0, 1, 0);
        x.mark(3, -3, 0);
        x.observe(2, 2, 0, 0);
        x.setUp();
        // x is 0, 0, 3 and y is 0, 0, -3 at u 0, 1, 2: the line through them is (3u - 1)/2, and the like.
        edge.due("p, q, s, t", "1500000 -1500000 -500000 500000", () -> partsOf(x));
        edge.due("misses of -1/2, 1/2", "1 0 0", () -> missesOf(x, 0));
        edge.due("misses of 1, -1", "-1 1 0", () -> missesOf(x, 1));
        edge.due("misses of 5/2, -5/2", "1 0 0", () -> missesOf(x, 2));
    }

    private static void leastSquaresAlongBoth(Edge edge) {
        edge.sentence("Terms", LEAST);
        StationRounds x = new StationRounds();
        int[][] marks = {{2, 0}, {-2, 0}, {0, 1}, {0, -1}};
        int[][] seen = {{1, 0}, {-1, 0}, {0, 1}, {0, -1}};
        for (int i = 0; i < 4; i++) {
            x.mark(marks[i][0] + 7, marks[i][1] - 7, 0);
            x.observe(i, seen[i][0], seen[i][1], 0);
        }
        x.setUp();
        edge.due("one scale for both axes", "1500000 0 7000000 -7000000", () -> partsOf(x));
        for (int turn = 0; turn < 4; turn++) {
            int[] at = Stands.CORNERS[turn];
            StationRounds y = pair(at[0], at[1], 1000, 1000);
            y.setUp();
            int[][] want = {{1, 0}, {0, 1}, {-1, 0}, {0, -1}};
            edge.due("turned by " + turn + " quarters",
                    want[turn][0] * 1000000L + " " + want[turn][1] * 1000000L + " 0 0", () -> partsOf(y));
        }
    }

    /** The height by two observations: of z seen at w with a prism, and of z seen at w without one. */
    private static int heightOf(int z, int w, int prism, int otherZ, int otherW) {
        StationRounds x = new StationRounds();
        x.mark(0, 0, z);
        x.mark(0, 0, otherZ);
        x.observe(0, 0, 0, w);
        x.observe(1, 1, 0, otherW);
        x.prism(0, prism);
        x.point(0, 0, 0);
        x.setUp();
        return x.place(0, 2);
    }

    private static void height(Edge edge) {
        edge.sentence("Terms", LEAST);
        edge.due("1/2 rounded down", 0, () -> heightOf(1, 0, 0, 0, 0));
        edge.due("-1/2 rounded down", -1, () -> heightOf(-1, 0, 0, 0, 0));
        edge.due("-3/2 rounded down", -2, () -> heightOf(0, 1, 0, 0, 2));
        edge.due("2/2", 1, () -> heightOf(1, 0, 0, 1, 0));
        edge.due("-2/2", -1, () -> heightOf(0, 1, 0, 0, 1));
        edge.due("the prism is added: 3000/2", 1500, () -> heightOf(0, 0, 3000, 0, 0));
        edge.due("the greatest, but for one prism", 21500, () -> heightOf(10000, -10000, 3000, 10000, -10000));
        edge.due("the least", -20000, () -> heightOf(-10000, 10000, 0, -10000, 10000));
        StationRounds x = Stands.straight();
        x.mark(0, 0, 10000);
        x.observe(2, 0, 0, 0);
        x.use(2, false);
        x.point(0, 0, 0);
        x.setUp();
        edge.due("those left out don't raise it", 0, () -> x.place(0, 2));
    }

    private static void tooFewToSetUp(Edge edge) {
        edge.sentence("Terms", "That needs two used ones at least that differ in u or v.");
        edge.idle("none", -1, Stands::empty, x -> x.setUp());
        edge.idle("marks alone", -1, Stands::fullPad, x -> x.setUp());
        edge.idle("one", -1, () -> Stands.withObservations(1), x -> x.setUp());
        edge.idle("two that differ in nothing", -1, () -> alike(2, 0, 0), x -> x.setUp());
        edge.idle("two that differ in w alone", -1, () -> alike(2, 1, 0), x -> x.setUp());
        edge.idle("two that differ in the mark alone", -1, () -> alike(2, 0, 1), x -> x.setUp());
        edge.idle("twenty that differ in w and the mark alone", -1, () -> alike(20, 1, 1), x -> x.setUp());
        edge.idle("two told, one used", -1, () -> {
            StationRounds x = Stands.straight();
            x.use(0, false);
            return x;
        }, x -> x.setUp());
        edge.idle("twenty told, none used", -1, () -> {
            StationRounds x = Stands.withObservations(20);
            for (int i = 0; i < 20; i++) {
                x.use(i, false);
            }
            return x;
        }, x -> x.setUp());
        edge.idle("the one that differs is left out", -1, () -> {
            StationRounds x = alike(19, 1, 1);
            x.observe(0, 9999, 10000, 0);
            x.use(19, false);
            return x;
        }, x -> x.setUp());
    }

    /** So many observations at one u, v; up and the mark may differ from one to the next. */
    private static StationRounds alike(int many, int rise, int marks) {
        StationRounds x = new StationRounds();
        for (int i = 0; i < 12; i++) {
            x.mark(i * 100, -i, i);
        }
        for (int i = 0; i < many; i++) {
            x.observe(i % 12 * marks, 10000, 10000, i * rise);
        }
        return x;
    }

    private static void justEnoughToSetUp(Edge edge) {
        edge.sentence("Terms", "That needs two used ones at least that differ in u or v.");
        edge.due("two, one apart in u", 2, () -> pair(0, 0, 1, 0).setUp());
        edge.due("two, one apart in u, below", 2, () -> pair(0, 0, -1, 0).setUp());
        edge.due("two, one apart in v", 2, () -> pair(0, 0, 0, 1).setUp());
        edge.due("two, one apart in v, below", 2, () -> pair(0, 0, 0, -1).setUp());
        edge.due("two of one mark", 2, () -> Stands.withObservations(2).setUp());
        edge.due("two, as far apart as can be", 2, () -> {
            StationRounds x = alike(1, 0, 0);
            x.observe(1, -10000, -10000, 0);
            return x.setUp();
        });
        edge.due("nineteen alike and one that differs in u by 1", 20, () -> {
            StationRounds x = alike(19, 0, 0);
            x.observe(0, 9999, 10000, 0);
            return x.setUp();
        });
        edge.due("nineteen alike and one that differs in v by 1", 20, () -> {
            StationRounds x = alike(19, 0, 0);
            x.observe(0, 10000, 9999, 0);
            return x.setUp();
        });
    }

    /** All that is told by the set-up about what was there when it was made. */
    private static List<String> placesOf(StationRounds x) {
        List<String> places = new ArrayList<>();
        places.add(partsOf(x));
        places.add("sum " + x.sum());
        for (int i = 0; i < 4; i++) {
            places.add("residual " + missesOf(x, i));
        }
        for (int i = 0; i < 2; i++) {
            places.add("place " + x.place(i, 0) + " " + x.place(i, 1) + " " + x.place(i, 2));
        }
        return places;
    }

    private static void staysAsMade(Edge edge, String what, Edge.Call call) {
        StationRounds x = Stands.ordinary();
        Check.answerOf(() -> call.on(x));
        edge.due("behind " + what, "none", () -> Trace.difference(placesOf(Stands.ordinary()), placesOf(x)));
    }

    private static void placesAreAsMade(Edge edge) {
        edge.sentence("Terms", "What is told of places is by the set-up as it was made.");
        staysAsMade(edge, "a mark", x -> x.mark(9, 9, 9));
        staysAsMade(edge, "an observation", x -> x.observe(0, 99, 99, 99));
        staysAsMade(edge, "a prism", x -> x.prism(1, 9));
        staysAsMade(edge, "one left out", x -> x.use(0, false));
        staysAsMade(edge, "one used", x -> x.use(2, true));
        staysAsMade(edge, "rows that were read", x -> Stands.readOf(x, ";2 5 5 5;"));
        staysAsMade(edge, "a wrong row", x -> x.read());
        staysAsMade(edge, "a point", x -> x.point(5, 5, 5));
        staysAsMade(edge, "a row of levels", x -> x.level(5, 5));
        staysAsMade(edge, "no rows of levels", x -> x.open());
        staysAsMade(edge, "a limit that is refused", x -> x.blunders(-1));
        staysAsMade(edge, "a set-up that can't be", x -> {
            x.use(0, false);
            x.use(1, false);
            x.use(3, false);
            return x.setUp() + x.blunders(0);
        });
        StationRounds x = Stands.ordinary();
        x.setUp();
        edge.due("but not behind another set-up", false, () -> placesOf(Stands.ordinary()).equals(placesOf(x)));
        StationRounds y = Stands.ordinary();
        y.blunders(100000);
        edge.due("nor behind blunders", "none", () -> Trace.difference(placesOf(x), placesOf(y)));
    }

    private static void residualIsAsThen(Edge edge) {
        edge.sentence("Terms", "The RESIDUAL of an observation");
        StationRounds x = Stands.straight();
        x.mark(10, 20, 40);
        x.observe(2, 1, 2, 104);
        x.prism(2, 100);
        x.use(2, false);
        x.setUp();
        edge.due("x, y, z less u, v and w less prism", "9 18 36", () -> missesOf(x, 2));
        x.prism(2, 3000);
        edge.due("with the prism as it was then", "9 18 36", () -> missesOf(x, 2));
        x.use(2, true);
        edge.due("one left out then", "9 18 36", () -> missesOf(x, 2));
        x.use(2, false);
        x.setUp();
        edge.due("with the prism as it is then", "9 18 2936", () -> missesOf(x, 2));
        StationRounds y = pair(1, -1, 2, 0);
        y.observe(0, 1, 0, 0);
        y.use(2, false);
        y.setUp();
        edge.due("a place of 1/2, -1/2 is rounded down first", "0 1 0", () -> missesOf(y, 2));
        StationRounds z = pair(1, -1, 49, 0);
        z.setUp();
        edge.due("a place that is whole, though 49 times 1/49 is less than 1 in doubles", "0 0 0",
                () -> missesOf(z, 1));
    }

    private static void howManySetUp(Edge edge) {
        edge.sentence("Promise 6", "Sets up by all used ones");
        for (int i = 2; i <= 20; i++) {
            int many = i;
            edge.due("by all " + many, many, () -> Stands.withObservations(many).setUp());
        }
        StationRounds x = Stands.withObservations(20);
        for (int i = 0; i < 18; i++) {
            int left = 19 - i;
            x.use(i, false);
            edge.due("one of twenty left out", left, () -> x.setUp());
        }
        x.use(18, false);
        edge.due("one used of twenty", -1, () -> x.setUp());
        edge.due("of those told", 3, () -> Stands.bare().setUp());
        edge.due("of those told later, too", 4, () -> Stands.ordinary().setUp());
    }

    private static StationRounds setUpThenOneUsed() {
        StationRounds x = Stands.ordinary();
        x.use(0, false);
        x.use(1, false);
        x.use(4, false);
        return x;
    }

    private static void formerSetUpStays(Edge edge) {
        edge.sentence("Promise 6", "Sets up by all used ones");
        edge.idle("one used: the former stays", -1, EdgesOfSetUps::setUpThenOneUsed, x -> x.setUp());
        edge.idle("none used: the former stays", -1, () -> {
            StationRounds x = setUpThenOneUsed();
            x.use(3, false);
            return x;
        }, x -> x.setUp());
        edge.idle("two alike: the former stays", -1, () -> {
            StationRounds x = setUpThenOneUsed();
            x.observe(0, 9, 8011, -12);
            return x;
        }, x -> x.setUp());
        edge.idle("none before: it is not set up still", -1, () -> Stands.withObservations(1), x -> x.setUp());
        edge.due("so there is no sum", Edge.STATE, () -> {
            StationRounds x = Stands.withObservations(1);
            x.setUp();
            return x.sum();
        });
    }

    private static void millionthsRoundedDown(Edge edge) {
        edge.sentence("Promise 7", "p (0), q (1), s (2) or t (3) in millionths");
        int[][] pairs = {{1, -1, 3, 333333, -333334}, {-2, 2, 3, -666667, 666666}, {1, -1, 2, 500000, -500000},
            {1, -1, 9999, 100, -101}, {0, 0, 3, 0, 0}, {3, -3, 3, 1000000, -1000000}, {1, -1, 10000, 100, -100},
            // Doubles would make one millionth less of these.
            {41, -83, 5, 8200000, -16600000}, {-161, 82, 10, -16100000, 8200000}};
        for (int[] a : pairs) {
            StationRounds x = pair(a[0], a[1], a[2], 0);
            x.setUp();
            edge.due("p, q of " + a[0] + "/" + a[2] + ", " + a[1] + "/" + a[2], a[3] + " " + a[4] + " 0 0",
                    () -> partsOf(x));
        }
        StationRounds y = new StationRounds();
        y.mark(0, 0, 0);
        y.mark(-1, 1, 0);
        y.observe(0, 0, 0, 0);
        y.observe(0, 0, 0, 0);
        y.observe(1, 0, 0, 0);
        y.observe(0, 1, 0, 0);
        y.setUp();
        // The three at 0 have a mean of -1/3, 1/3: from there to 0, 0 is p, q.
        edge.due("p, q, s, t of thirds", "333333 -333334 -333334 333333", () -> partsOf(y));
    }

    private static void farthestParts(Edge edge) {
        edge.sentence("Promise 7", "p (0), q (1), s (2) or t (3) in millionths");
        StationRounds x = new StationRounds();
        x.mark(10000, 10000, 0);
        x.mark(-10000, -10000, 0);
        x.observe(0, 10000, -10000, 0);
        x.observe(1, 9999, -10000, 0);
        x.setUp();
        edge.due("the greatest p and q, the least s", "20000000000 20000000000 -399990000000000 10000000000",
                () -> partsOf(x));
        StationRounds y = new StationRounds();
        y.mark(10000, 10000, 0);
        y.mark(-10000, -10000, 0);
        y.observe(1, 10000, -10000, 0);
        y.observe(0, 9999, -10000, 0);
        y.setUp();
        edge.due("the least p and q, the greatest s", "-20000000000 -20000000000 399990000000000 -10000000000",
                () -> partsOf(y));
        StationRounds z = new StationRounds();
        z.mark(10000, 10000, 0);
        z.mark(-10000, -10000, 0);
        z.observe(0, 10000, 10000, 0);
        z.observe(1, 9999, 10000, 0);
        z.setUp();
        edge.due("the least t", "20000000000 20000000000 10000000000 -399990000000000", () -> partsOf(z));
    }

    private static void turnedRefuses(Edge edge) {
        edge.sentence("Promise 7", "IndexOutOfBoundsException: what.");
        for (int what : new int[] {-1, 4, Integer.MIN_VALUE, Integer.MAX_VALUE}) {
            edge.idle("part " + what, Edge.INDEX, Stands::ordinary, x -> x.turned(what));
            edge.idle("part " + what + ", not set up", Edge.INDEX, Stands::bare, x -> x.turned(what));
        }
        edge.sentence("Promise 7", "IllegalStateException: it is not set up.");
        for (int i = 0; i < 4; i++) {
            int what = i;
            edge.idle("part " + i + " of nothing", Edge.STATE, Stands::empty, x -> x.turned(what));
            edge.idle("part " + i, Edge.STATE, Stands::bare, x -> x.turned(what));
        }
    }

    private static void residualAlongAxes(Edge edge) {
        edge.sentence("Promise 8", "An observation's residual along an axis 0 .. 2.");
        StationRounds x = Stands.skewSquare(30, 40);
        x.prism(0, 4);
        x.setUp();
        String[] want = {"30 40 3", "-30 -40 -1", "30 40 -1", "-30 -40 -1"};
        for (int i = 0; i < 4; i++) {
            int observation = i;
            edge.due("observation " + i, want[i], () -> missesOf(x, observation));
        }
        edge.idle("asking changes nothing", 3, () -> {
            StationRounds y = Stands.skewSquare(30, 40);
            y.prism(0, 4);
            y.setUp();
            return y;
        }, y -> y.residual(0, 2));
        StationRounds z = Stands.withObservations(20);
        z.setUp();
        edge.due("the last of twenty", "0 0 0", () -> missesOf(z, 19));
    }

    private static void residualRefuses(Edge edge) {
        edge.sentence("Promise 8", "IndexOutOfBoundsException: observation, axis");
        for (int wrong : new int[] {-1, 20, Integer.MIN_VALUE, Integer.MAX_VALUE}) {
            edge.idle("observation " + wrong, Edge.INDEX, Stands::full, x -> x.residual(wrong, 0));
            edge.idle("axis " + wrong, Edge.INDEX, Stands::full, x -> x.residual(0, wrong));
            edge.idle("both " + wrong, Edge.INDEX, Stands::full, x -> x.residual(wrong, wrong));
        }
        edge.idle("axis 3", Edge.INDEX, Stands::full, x -> x.residual(0, 3));
        edge.sentence("Promise 8", "IllegalStateException: it is not set up.");
        for (int i = 0; i < 12; i++) {
            int at = i;
            edge.idle("observation " + i / 3 + ", axis " + i % 3, Edge.STATE, Stands::bare,
                    x -> x.residual(at / 3, at % 3));
        }
    }

    private static void toldLater(Edge edge) {
        edge.sentence("Promise 8", "IndexOutOfBoundsException: observation, axis");
        edge.idle("the one told later", Edge.INDEX, Stands::ordinary, x -> x.residual(4, 0));
        edge.idle("the one told later, no axis", Edge.INDEX, Stands::ordinary, x -> x.residual(4, 3));
        StationRounds x = Stands.straight();
        x.setUp();
        edge.due("read later", 1, () -> Stands.readOf(x, "0 5 6 7;"));
        edge.due("the one read later", Edge.INDEX, () -> x.residual(2, 2));
        edge.due("the last one before it", 0, () -> x.residual(1, 2));
        x.use(0, false);
        x.use(1, false);
        edge.due("a set-up that can't be", -1, () -> x.setUp());
        edge.due("still told later", Edge.INDEX, () -> x.residual(2, 2));
        edge.due("blunders that can't be", -1, () -> x.blunders(0));
        edge.due("still told later, too", Edge.INDEX, () -> x.residual(2, 2));
        x.use(0, true);
        x.use(1, true);
        x.use(2, false);
        edge.due("set up without it, but told by then", 2, () -> x.setUp());
        edge.due("told before", "-5 -6 -7", () -> missesOf(x, 2));
        x.observe(0, 50, 50, 50);
        edge.due("the next one, told later", Edge.INDEX, () -> x.residual(3, 0));
        edge.due("set up by blunders", 0, () -> x.blunders(100000));
        edge.due("told before that", true, () -> x.residual(3, 0) < 0);
    }

    private static void sumOfSquares(Edge edge) {
        edge.sentence("Promise 10", "The sum of the squares of all residuals");
        StationRounds x = Stands.skewSquare(30, 40);
        x.prism(0, 4);
        x.setUp();
        edge.due("three axes", 4L * 2500 + 9 + 3, () -> x.sum());
        x.use(3, false);
        x.prism(0, 0);
        x.observe(0, 0, 0, 0);
        edge.due("of those used at the set-up", 4L * 2500 + 9 + 3, () -> x.sum());
        StationRounds y = Stands.straight();
        y.mark(10000, 10000, 10000);
        y.observe(2, -10000, -10000, -10000);
        y.use(2, false);
        y.setUp();
        edge.due("none of one left out", 0L, () -> y.sum());
        y.use(2, true);
        edge.due("nor if it is used later", 0L, () -> y.sum());
        StationRounds z = Stands.skewSquare(9000, 9000);
        for (int i = 4; i < 20; i++) {
            z.observe(i % 4, Stands.CORNERS[i % 4][0], Stands.CORNERS[i % 4][1], i % 2 == 0 ? 10000 : -10000);
        }
        z.setUp();
        edge.due("beyond an int", 20L * 2 * 81000000 + 16L * 100000000, () -> z.sum());
    }

    private static void sumRefuses(Edge edge) {
        edge.sentence("Promise 10", "IllegalStateException: it is not set up.");
        edge.idle("of nothing", Edge.STATE, Stands::empty, x -> x.sum());
        edge.idle("of some", Edge.STATE, Stands::bare, x -> x.sum());
        edge.idle("of some that can't be set up", Edge.STATE, () -> alike(20, 1, 1), x -> {
            x.setUp();
            x.blunders(0);
            return x.sum();
        });
        edge.due("of two", 0L, () -> {
            StationRounds x = Stands.straight();
            x.setUp();
            return x.sum();
        });
    }
}
