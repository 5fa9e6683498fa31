/** A new object, an object that was used long, and what is counted. */
final class EdgesOfObjects {
    private static final String WHAT_IT_IS = "Set-ups of a station among marks";

    private EdgesOfObjects() {
    }

    static void all(Edge edge) {
        oneByOneOrAsTexts(edge);
        exactlyTheLeastSum(edge);
        blundersPointsAndLoops(edge);
        lastCall(edge);
        newObject(edge);
        objectsStandAlone(edge);
        counts(edge);
        countsOfFull(edge);
        countRefuses(edge);
    }

    private static void oneByOneOrAsTexts(Edge edge) {
        edge.sentence("What it is", WHAT_IT_IS);
        StationRounds told = new StationRounds();
        StationRounds written = new StationRounds();
        for (StationRounds x : new StationRounds[] {told, written}) {
            x.mark(500, -700, 20);
            x.mark(-3000, 41, 60);
            x.mark(9, 8, -7);
            x.point(-77, 66, 5);
        }
        told.observe(0, -10000, 10000, 0);
        told.observe(2, 31, -2, 3);
        told.observe(1, 0, 12, -45);
        told.observe(1, 7, 13, -46);
        edge.due("as a text", 3, () -> Stands.readOf(written, "0 -10000 10000 0;2 31 -02 3;01 -0 12 -45;"));
        edge.due("and one by one behind it", 3, () -> written.observe(1, 7, 13, -46));
        edge.due("set up", 4, () -> told.setUp());
        edge.due("set up by the text", 4, () -> written.setUp());
        edge.due("they are told alike", "none",
                () -> Trace.difference(Trace.told(told), Trace.told(written)));
        edge.due("they are held alike", "none",
                () -> Trace.difference(Trace.held(told), Trace.held(written)));
    }

    /** Three marks, of which no turn, scale and shift meets all; by hand, p, q, s, t are -1/2, 1, 1/3, 0. */
    private static void exactlyTheLeastSum(Edge edge) {
        edge.sentence("What it is", WHAT_IT_IS);
        StationRounds x = new StationRounds();
        x.mark(0, 0, 0);
        x.mark(0, 1, 0);
        x.mark(1, -1, 0);
        x.observe(0, 0, 0, 0);
        x.observe(1, 1, 0, 0);
        x.observe(2, -1, 0, 0);
        x.setUp();
        edge.due("p", -500000L, () -> x.turned(0));
        edge.due("q", 1000000L, () -> x.turned(1));
        edge.due("s", 333333L, () -> x.turned(2));
        edge.due("t", 0L, () -> x.turned(3));
    }

    private static void blundersPointsAndLoops(Edge edge) {
        edge.sentence("What it is", WHAT_IT_IS);
        StationRounds x = Stands.square();
        x.observe(0, 1000, 1500, 0);
        x.observe(2, -1900, -1000, 0);
        x.point(123, -456, 7);
        x.level(5, 1);
        x.level(6, 3);
        edge.due("blunders, both", 2, () -> x.blunders(5));
        edge.due("the rest fits", 0L, () -> x.sum());
        edge.due("a new point", -456, () -> x.place(0, 1));
        edge.due("a loop's first share is 11/4, rounded down", 3, () -> x.closed(0));
        edge.due("a loop's last share is the rest", -3, () -> x.closed(1));
    }

    private static void lastCall(Edge edge) {
        edge.sentence("What it is", "An object is used for at most 512 calls");
        StationRounds x = Stands.skewSquare(100, 0);
        int calls = 8;
        while (calls < 507) {
            x.blunders(99);
            x.use(0, true);
            calls += 2;
        }
        while (calls < 509) {
            x.unit('0', 0);
            calls++;
        }
        edge.due("call 510", 1, () -> x.blunders(99));
        edge.due("call 511", -1, () -> x.read());
        edge.due("call 512", 200, () -> x.residual(0, 0));
        StationRounds y = new StationRounds();
        for (int i = 0; i < 510; i++) {
            Check.answerOf(() -> y.mark(10001, 0, 0));
        }
        edge.due("call 511, behind refused ones", 0, () -> y.mark(10000, 0, 0));
        edge.due("call 512, behind refused ones", 1, () -> y.count(0));
    }

    private static void newObject(Edge edge) {
        edge.sentence("Promise 1", "No marks");
        for (int i = 0; i < 6; i++) {
            int what = i;
            edge.idle("none of count " + i, 0, Stands::empty, x -> x.count(what));
        }
        edge.idle("no mark", Edge.INDEX, Stands::empty, x -> x.observe(0, 0, 0, 0));
        edge.idle("no observation to use", Edge.INDEX, Stands::empty, x -> x.use(0, false));
        edge.idle("no observation with a prism", Edge.INDEX, Stands::empty, x -> x.prism(0, 0));
        edge.idle("no observation with a residual", Edge.INDEX, Stands::empty, x -> x.residual(0, 0));
        edge.idle("no point", Edge.INDEX, Stands::empty, x -> x.place(0, 0));
        edge.idle("no row", Edge.INDEX, Stands::empty, x -> x.closed(0));
        edge.idle("no rows to take away", 0, Stands::empty, x -> x.open());
        edge.idle("no rows to read", 0, Stands::empty, x -> x.read());
        edge.idle("not set up: no sum", Edge.STATE, Stands::empty, x -> x.sum());
        for (int i = 0; i < 4; i++) {
            int what = i;
            edge.idle("not set up: no part " + i, Edge.STATE, Stands::empty, x -> x.turned(what));
        }
        edge.due("NONE", -1, () -> StationRounds.NONE);
    }

    private static void objectsStandAlone(Edge edge) {
        edge.sentence("Promise 1", "No marks");
        StationRounds old = Stands.full();
        StationRounds x = new StationRounds();
        edge.due("a new one beside a full one", "none",
                () -> Trace.difference(Trace.told(new StationRounds()), Trace.told(x)));
        Stands.write(x, "0");
        x.mark(9, 9, 9);
        x.level(9, 9);
        x.point(9, 9, 9);
        x.observe(0, 9, 9, 9);
        edge.due("the full one beside it", "none",
                () -> Trace.difference(Trace.told(Stands.full()), Trace.told(old)));
    }

    private static void counts(Edge edge) {
        edge.sentence("Promise 18", "0 marks, 1 observations");
        int[] ordinary = {3, 5, 4, 2, 3, 19};
        for (int i = 0; i < ordinary.length; i++) {
            int what = i;
            edge.idle("count " + i + " of some", ordinary[i], Stands::ordinary, x -> x.count(what));
        }
        StationRounds x = Stands.square();
        for (int i = 0; i < 4; i++) {
            int left = 3 - i;
            x.use(i, false);
            edge.due("those used, one less", left, () -> x.count(2));
            edge.due("those told stay", 4, () -> x.count(1));
        }
        x.use(3, true);
        edge.due("those used, one more", 1, () -> x.count(2));
        edge.due("the last alone", -1, () -> x.setUp());
    }

    private static void countsOfFull(Edge edge) {
        edge.sentence("Promise 18", "0 marks, 1 observations");
        int[] full = {12, 20, 18, 30, 12, 200};
        for (int i = 0; i < full.length; i++) {
            int what = i;
            edge.idle("count " + i + " of as many as may be", full[i], Stands::full, x -> x.count(what));
        }
        StationRounds y = Stands.full();
        y.use(17, true);
        y.use(18, true);
        edge.due("all twenty are used", 20, () -> y.count(2));
        y.open();
        y.read();
        edge.due("rows taken away", 0, () -> y.count(4));
        edge.due("signs taken away", 0, () -> y.count(5));
    }

    private static void countRefuses(Edge edge) {
        edge.sentence("Promise 18", "IndexOutOfBoundsException: none of these.");
        for (int what : new int[] {-1, 6, Integer.MIN_VALUE, Integer.MAX_VALUE}) {
            edge.idle("count " + what + " of none", Edge.INDEX, Stands::empty, x -> x.count(what));
            edge.idle("count " + what + " of some", Edge.INDEX, Stands::ordinary, x -> x.count(what));
            edge.idle("count " + what + " of all", Edge.INDEX, Stands::full, x -> x.count(what));
        }
    }
}
