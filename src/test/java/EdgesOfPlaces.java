/** New points and their places. */
final class EdgesOfPlaces {
    private EdgesOfPlaces() {
    }

    static void all(Edge edge) {
        placesRoundedDown(edge);
        farthestPlaces(edge);
        upPlusHeight(edge);
        numbersOfPoints(edge);
        pointsRefused(edge);
        placesByTheSetUp(edge);
        placesRefused(edge);
    }

    private static String placeOf(StationRounds x, int u, int v, int w) {
        int point = x.point(u, v, w);
        return x.place(point, 0) + " " + x.place(point, 1) + " " + x.place(point, 2);
    }

    /** Set up with p = 1/2 and q = -1/2, without a shift: x is (u + v)/2, y is (v - u)/2. */
    private static StationRounds halves() {
        StationRounds x = new StationRounds();
        x.mark(0, 0, 0);
        x.mark(1, -1, 0);
        x.observe(0, 0, 0, 0);
        x.observe(1, 2, 0, 0);
        x.setUp();
        return x;
    }

    private static void placesRoundedDown(Edge edge) {
        edge.sentence("Terms", "THE PLACE of u, v, w is");
        for (int u = -2; u <= 2; u++) {
            StationRounds x = halves();
            for (int v = -2; v <= 2; v++) {
                int across = u;
                int along = v;
                String want = Math.floorDiv(u + v, 2) + " " + Math.floorDiv(v - u, 2) + " 0";
                edge.due("of " + u + ", " + v, want, () -> placeOf(x, across, along, 0));
            }
        }
        StationRounds y = new StationRounds();
        y.mark(0, 0, 0);
        y.mark(-1, 1, 0);
        y.observe(0, 0, 0, 0);
        y.observe(0, 0, 0, 0);
        y.observe(1, 0, 0, 0);
        y.observe(0, 1, 0, 0);
        y.setUp();
        // p, q, s, t are 1/3, -1/3, -1/3, 1/3.
        edge.due("a shift of thirds", "-1 0 -1", () -> placeOf(y, 0, 0, -1));
        edge.due("thirds that are whole in all", "0 0 0", () -> placeOf(y, 1, 0, 0));
        edge.due("thirds that are whole in all, below", "-1 1 0", () -> placeOf(y, -2, 0, 0));
        edge.due("thirds, next to whole", "-2 1 0", () -> placeOf(y, -3, 0, 0));
        for (int across : new int[] {7, 49, 93, 98, 103, 107, 161, 187, 197}) {
            StationRounds z = new StationRounds();
            z.mark(0, 0, 0);
            z.mark(1, -1, 0);
            z.observe(0, 0, 0, 0);
            z.observe(1, across, 0, 0);
            z.setUp();
            edge.due("whole, by 1/" + across, "1 -1 0", () -> placeOf(z, across, 0, 0));
            edge.due("one less than whole, by 1/" + across, "0 -1 0", () -> placeOf(z, across - 1, 0, 0));
            edge.due("one more than whole, by 1/" + across, "1 -2 0", () -> placeOf(z, across + 1, 0, 0));
        }
    }

    private static void farthestPlaces(Edge edge) {
        edge.sentence("Terms", "THE PLACE of u, v, w is");
        for (int way : new int[] {1, -1}) {
            StationRounds x = new StationRounds();
            x.mark(10000 * way, 10000 * way, 0);
            x.mark(-10000 * way, -10000 * way, 0);
            x.observe(0, 10000, -10000, 0);
            x.observe(1, 9999, -10000, 0);
            x.setUp();
            edge.due("the farthest along x", -way * 799990000 + " " + way * 10000 + " 0",
                    () -> placeOf(x, -10000, 10000, 0));
            edge.due("far along both", -way * 399990000 + " " + -way * 399990000 + " 0",
                    () -> placeOf(x, -10000, -10000, 0));
            StationRounds y = new StationRounds();
            y.mark(10000 * way, 10000 * way, 0);
            y.mark(-10000 * way, -10000 * way, 0);
            y.observe(0, 10000, 10000, 0);
            y.observe(1, 9999, 10000, 0);
            y.setUp();
            edge.due("the farthest along y", way * 10000 + " " + -way * 799990000 + " 0",
                    () -> placeOf(y, -10000, -10000, 0));
        }
    }

    /** Set up with a height of z less w plus prism. */
    private static StationRounds raised(int z, int w, int prism) {
        StationRounds x = new StationRounds();
        x.mark(0, 0, z);
        x.observe(0, 0, 0, w);
        x.observe(0, 1, 0, w);
        x.prism(0, prism);
        x.prism(1, prism);
        x.setUp();
        return x;
    }

    private static void upPlusHeight(Edge edge) {
        edge.sentence("Terms", "THE PLACE of u, v, w is");
        edge.due("the highest", "0 0 33000", () -> placeOf(raised(10000, -10000, 3000), 0, 0, 10000));
        edge.due("the lowest", "0 0 -30000", () -> placeOf(raised(-10000, 10000, 0), 0, 0, -10000));
        edge.due("up and height take each other away", "0 0 0", () -> placeOf(raised(5, 0, 0), 0, 0, -5));
        edge.due("u and v don't raise it", "0 0 7", () -> placeOf(raised(7, 0, 0), 10000, -10000, 0));
    }

    private static void numbersOfPoints(Edge edge) {
        edge.sentence("Promise 11", "A point: its number, from 0 on.");
        StationRounds x = Stands.straight();
        x.setUp();
        for (int i = 0; i < 30; i++) {
            int number = i;
            edge.due("point " + i, i, () -> x.point(number, -number, 2 * number));
            edge.due("so many with point " + i, i + 1, () -> x.count(3));
        }
        for (int i = 0; i < 30; i++) {
            int number = i;
            edge.due("place of point " + i, i + " " + -i + " " + 2 * i,
                    () -> x.place(number, 0) + " " + x.place(number, 1) + " " + x.place(number, 2));
        }
        edge.sentence("Promise 11", "IllegalStateException: there are thirty.");
        edge.due("a thirty-first", Edge.STATE, () -> x.point(0, 0, 0));
        edge.due("a thirty-first, too far", Edge.STATE, () -> x.point(0, 0, 10001));
        edge.due("the thirtieth is the last", 30, () -> x.count(3));
        edge.idle("a thirty-first, with all else full", Edge.STATE, Stands::full, z -> z.point(0, 0, 0));
    }

    private static void pointsRefused(Edge edge) {
        edge.sentence("Promise 11", "IllegalArgumentException: -10000 .. 10000 each.");
        for (int far : Edge.TOO_FAR) {
            edge.idle("u " + far, Edge.ARGUMENT, Stands::ordinary, x -> x.point(far, 0, 0));
            edge.idle("v " + far, Edge.ARGUMENT, Stands::ordinary, x -> x.point(0, far, 0));
            edge.idle("w " + far, Edge.ARGUMENT, Stands::ordinary, x -> x.point(0, 0, far));
        }
        StationRounds x = Stands.straight();
        x.setUp();
        for (int far : new int[] {-10000, 10000}) {
            edge.due("u " + far, far + " 0 0", () -> placeOf(x, far, 0, 0));
            edge.due("v " + far, "0 " + far + " 0", () -> placeOf(x, 0, far, 0));
            edge.due("w " + far, "0 0 " + far, () -> placeOf(x, 0, 0, far));
            edge.due("all " + far, far + " " + far + " " + far, () -> placeOf(x, far, far, far));
        }
        Check.answerOf(() -> x.point(0, 10001, 0));
        edge.due("a refused point takes no number", 8, () -> x.point(0, 10000, 0));
    }

    private static void placesByTheSetUp(Edge edge) {
        edge.sentence("Promise 12", "A point's place along an axis by the set-up.");
        StationRounds x = Stands.straight();
        x.point(10, 20, 30);
        x.setUp();
        edge.due("told ahead of the set-up", "10 20 30",
                () -> x.place(0, 0) + " " + x.place(0, 1) + " " + x.place(0, 2));
        edge.due("told behind the set-up", "11 21 31", () -> placeOf(x, 11, 21, 31));
        x.prism(0, 4);
        x.use(1, false);
        edge.due("changes of observations", 30, () -> x.place(0, 2));
        edge.due("a set-up that can't be", -1, () -> x.setUp());
        edge.due("changes nothing", 30, () -> x.place(0, 2));
        x.use(1, true);
        x.setUp();
        edge.due("another set-up: the height is 2", 32, () -> x.place(0, 2));
        edge.idle("asking changes nothing", 10, () -> {
            StationRounds y = Stands.straight();
            y.point(10, 20, 30);
            y.setUp();
            return y;
        }, y -> y.place(0, 0));
    }

    private static void placesRefused(Edge edge) {
        edge.sentence("Promise 12", "IndexOutOfBoundsException: point, axis.");
        for (int wrong : new int[] {-1, 30, Integer.MIN_VALUE, Integer.MAX_VALUE}) {
            edge.idle("point " + wrong, Edge.INDEX, Stands::full, x -> x.place(wrong, 0));
            edge.idle("axis " + wrong, Edge.INDEX, Stands::full, x -> x.place(0, wrong));
            edge.idle("both " + wrong, Edge.INDEX, Stands::full, x -> x.place(wrong, wrong));
        }
        edge.idle("axis 3", Edge.INDEX, Stands::full, x -> x.place(29, 3));
        edge.idle("the point behind the last", Edge.INDEX, Stands::ordinary, x -> x.place(2, 0));
        edge.sentence("Promise 12", "IllegalStateException: it is not set up.");
        for (int i = 0; i < 6; i++) {
            int at = i;
            edge.idle("point " + i / 3 + ", axis " + i % 3, Edge.STATE, Stands::bare, x -> x.place(at / 3, at % 3));
        }
        edge.due("it can't be set up", Edge.STATE, () -> {
            StationRounds x = Stands.withObservations(1);
            x.point(0, 0, 0);
            x.setUp();
            return x.place(0, 0);
        });
    }
}
