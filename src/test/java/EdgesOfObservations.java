/** Marks, observations, prisms, and which observations are used. */
final class EdgesOfObservations {
    private static final int[] FARTHEST = {-10000, -9999, 0, 9999, 10000};

    private EdgesOfObservations() {
    }

    static void all(Edge edge) {
        farthestMarks(edge);
        numbersOfMarks(edge);
        marksTooFar(edge);
        farthestObservations(edge);
        numbersOfObservations(edge);
        observationsRefused(edge);
        prismIsNoneAtFirst(edge);
        prismLessensUp(edge);
        prismTellsWhatItWas(edge);
        prismRefused(edge);
        usedOrLeftOut(edge);
        useTellsWhetherItChanges(edge);
        useRefused(edge);
    }

    private static int[] along(int axis, int far) {
        int[] spot = new int[3];
        spot[axis] = far;
        return spot;
    }

    /** What observation 2 misses by, left out of a set-up in which every place is what it is told by. */
    private static int missOf(int[] mark, int[] seen, int prism, int axis) {
        StationRounds x = Stands.straight();
        int number = x.mark(mark[0], mark[1], mark[2]);
        int observation = x.observe(number, seen[0], seen[1], seen[2]);
        x.prism(observation, prism);
        x.use(observation, false);
        x.setUp();
        return x.residual(observation, axis);
    }

    private static void farthestMarks(Edge edge) {
        edge.sentence("Terms", "MARKS 0 .. 11 have x, y, z");
        for (int axis = 0; axis < 3; axis++) {
            for (int far : FARTHEST) {
                int along = axis;
                edge.due("a mark's axis " + axis + " is " + far, far,
                        () -> missOf(along(along, far), new int[3], 0, along));
            }
            for (int far : Edge.TOO_FAR) {
                int[] mark = along(axis, far);
                edge.idle("a mark's axis " + axis + " is not " + far, Edge.ARGUMENT, Stands::ordinary,
                        x -> x.mark(mark[0], mark[1], mark[2]));
            }
        }
        StationRounds x = new StationRounds();
        edge.due("all farthest below", 0, () -> x.mark(-10000, -10000, -10000));
        edge.due("all farthest above", 1, () -> x.mark(10000, 10000, 10000));
    }

    private static void numbersOfMarks(Edge edge) {
        edge.sentence("Promise 2", "A mark: its number.");
        StationRounds x = new StationRounds();
        for (int i = 0; i < 12; i++) {
            int number = i;
            edge.due("mark " + i, i, () -> x.mark(-number, number, 0));
            edge.due("so many with mark " + i, i + 1, () -> x.count(0));
            edge.due("mark " + i + " can be observed", i, () -> x.observe(number, -number, number, 0));
        }
        edge.due("each observed where it is", 12, () -> x.setUp());
        edge.due("each has its own x and y", 0L, () -> x.sum());
        StationRounds y = new StationRounds();
        edge.due("a mark", 0, () -> y.mark(1, 1, 1));
        edge.due("a mark at the same spot is another", 1, () -> y.mark(1, 1, 1));
        edge.sentence("Promise 2", "IllegalStateException: there are twelve.");
        edge.due("a thirteenth", Edge.STATE, () -> x.mark(0, 0, 0));
        edge.idle("a thirteenth, with all else full", Edge.STATE, Stands::full, z -> z.mark(0, 0, 0));
        edge.due("the twelfth is the last", 12, () -> x.count(0));
    }

    private static void marksTooFar(Edge edge) {
        edge.sentence("Promise 2", "IllegalArgumentException.");
        for (int far : Edge.TOO_FAR) {
            edge.idle("x " + far, Edge.ARGUMENT, Stands::empty, x -> x.mark(far, 0, 0));
            edge.idle("y " + far, Edge.ARGUMENT, Stands::empty, x -> x.mark(0, far, 0));
            edge.idle("z " + far, Edge.ARGUMENT, Stands::empty, x -> x.mark(0, 0, far));
            edge.idle("all " + far, Edge.ARGUMENT, Stands::empty, x -> x.mark(far, far, far));
        }
        StationRounds x = new StationRounds();
        Check.answerOf(() -> x.mark(0, 0, 10001));
        edge.due("a refused mark takes no number", 0, () -> x.mark(0, 0, 10000));
    }

    private static void farthestObservations(Edge edge) {
        edge.sentence("Terms", "OBSERVATIONS, at most 20");
        for (int axis = 0; axis < 3; axis++) {
            for (int far : FARTHEST) {
                int along = axis;
                edge.due("observed along axis " + axis + " at " + far, -far,
                        () -> missOf(new int[3], along(along, far), 0, along));
            }
            for (int far : Edge.TOO_FAR) {
                int[] seen = along(axis, far);
                edge.idle("not observed along axis " + axis + " at " + far, Edge.ARGUMENT, Stands::ordinary,
                        x -> x.observe(0, seen[0], seen[1], seen[2]));
            }
        }
        edge.due("all farthest below", 4, () -> Stands.bare().observe(0, -10000, -10000, -10000));
        edge.due("all farthest above", 4, () -> Stands.bare().observe(0, 10000, 10000, 10000));
        edge.due("at most 20", 19, () -> Stands.withObservations(19).observe(0, 0, 0, 0));
        edge.due("no more", Edge.STATE, () -> Stands.withObservations(20).observe(0, 0, 0, 0));
    }

    private static void numbersOfObservations(Edge edge) {
        edge.sentence("Promise 3", "An observation (used): its number.");
        StationRounds x = new StationRounds();
        x.mark(3, 4, 5);
        for (int i = 0; i < 20; i++) {
            int number = i;
            edge.due("observation " + i, i, () -> x.observe(0, 3, 4, 5));
            edge.due("so many with observation " + i, i + 1, () -> x.count(1));
            edge.due("used with observation " + i, i + 1, () -> x.count(2));
            edge.due("observation " + i + " is used", false, () -> x.use(number, true));
        }
        edge.sentence("Promise 3", "IllegalStateException: there are twenty.");
        edge.due("a twenty-first", Edge.STATE, () -> x.observe(0, 3, 4, 5));
        x.use(7, false);
        edge.due("a twenty-first, one being left out", Edge.STATE, () -> x.observe(0, 3, 4, 5));
        edge.due("the twentieth is the last", 20, () -> x.count(1));
        edge.idle("a twenty-first, with all else full", Edge.STATE, Stands::full, z -> z.observe(11, 0, 0, 0));
    }

    private static void observationsRefused(Edge edge) {
        edge.sentence("Promise 3", "IndexOutOfBoundsException: mark.");
        edge.idle("no mark at all", Edge.INDEX, Stands::empty, x -> x.observe(0, 0, 0, 0));
        edge.idle("mark -1", Edge.INDEX, Stands::bare, x -> x.observe(-1, 0, 0, 0));
        edge.idle("the mark behind the last", Edge.INDEX, Stands::bare, x -> x.observe(3, 0, 0, 0));
        edge.due("the last mark", 4, () -> Stands.bare().observe(2, 0, 0, 0));
        edge.due("the first mark", 4, () -> Stands.bare().observe(0, 0, 0, 0));
        edge.idle("mark 12", Edge.INDEX, Stands::full, x -> x.observe(12, 0, 0, 0));
        edge.sentence("Promise 3", "IllegalArgumentException.");
        for (int far : Edge.TOO_FAR) {
            edge.idle("u " + far, Edge.ARGUMENT, Stands::bare, x -> x.observe(2, far, 0, 0));
            edge.idle("v " + far, Edge.ARGUMENT, Stands::bare, x -> x.observe(2, 0, far, 0));
            edge.idle("w " + far, Edge.ARGUMENT, Stands::bare, x -> x.observe(2, 0, 0, far));
        }
        StationRounds x = Stands.withObservations(19);
        edge.due("too far while one more may come", Edge.ARGUMENT, () -> x.observe(0, 0, 0, 10001));
        edge.due("a refused observation takes no number", 19, () -> x.observe(0, 0, 0, 10000));
    }

    private static void prismIsNoneAtFirst(Edge edge) {
        edge.sentence("Terms", "OBSERVATIONS, at most 20");
        StationRounds x = Stands.withObservations(20);
        for (int i = 0; i < 20; i++) {
            int number = i;
            edge.due("no prism with observation " + i, 0, () -> x.prism(number, 3000));
        }
        StationRounds y = Stands.withObservations(0);
        Stands.readOf(y, "0 1 2 3;");
        edge.due("no prism with one that was read", 0, () -> y.prism(0, 1));
    }

    private static void prismLessensUp(Edge edge) {
        edge.sentence("Terms", "OBSERVATIONS, at most 20");
        for (int height : new int[] {0, 1, 2999, 3000}) {
            int seen = 10000;
            edge.due("up 10000 with a prism of " + height, height - seen,
                    () -> missOf(new int[3], along(2, seen), height, 2));
            edge.due("up -10000 with a prism of " + height, height + seen,
                    () -> missOf(new int[3], along(2, -seen), height, 2));
            edge.due("across with a prism of " + height, -5, () -> missOf(new int[3], along(0, 5), height, 0));
            edge.due("along with a prism of " + height, -5, () -> missOf(new int[3], along(1, 5), height, 1));
        }
    }

    private static void prismTellsWhatItWas(Edge edge) {
        edge.sentence("Promise 4", "A prism's height: what it was.");
        StationRounds x = Stands.bare();
        edge.due("the lowest at first", 0, () -> x.prism(0, 3000));
        edge.due("the highest", 3000, () -> x.prism(0, 0));
        edge.due("the lowest", 0, () -> x.prism(0, 1));
        edge.due("the same again", 1, () -> x.prism(0, 1));
        edge.due("another's", 1500, () -> x.prism(1, 2999));
        edge.due("one that is left out", 0, () -> x.prism(3, 5));
        edge.due("its own", 2999, () -> x.prism(1, 0));
        edge.due("the one left out stays so", true, () -> x.use(3, true));
        edge.due("its own, too", 5, () -> x.prism(3, 0));
    }

    private static void prismRefused(Edge edge) {
        edge.sentence("Promise 4", "IndexOutOfBoundsException; IllegalArgumentException.");
        for (int number : new int[] {-1, 5, 20, Integer.MIN_VALUE, Integer.MAX_VALUE}) {
            edge.idle("observation " + number, Edge.INDEX, Stands::ordinary, x -> x.prism(number, 0));
            edge.idle("observation " + number + " and height", Edge.INDEX, Stands::ordinary,
                    x -> x.prism(number, 3001));
        }
        for (int height : new int[] {-1, 3001, Integer.MIN_VALUE, Integer.MAX_VALUE}) {
            edge.idle("height " + height, Edge.ARGUMENT, Stands::ordinary, x -> x.prism(4, height));
            edge.idle("height " + height + " of another", Edge.ARGUMENT, Stands::ordinary,
                    x -> x.prism(1, height));
        }
        edge.due("the last observation", 0, () -> Stands.ordinary().prism(4, 3000));
        edge.due("the first observation", 77, () -> Stands.ordinary().prism(0, 0));
        edge.due("the last of twenty", 3000, () -> Stands.full().prism(19, 0));
    }

    private static void usedOrLeftOut(Edge edge) {
        edge.sentence("Terms", "An observation is USED, or left out as a blunder.");
        StationRounds x = Stands.square();
        x.mark(0, 0, 0);
        x.observe(4, 400, -400, 400);
        edge.due("used: it shifts the set-up", 5, () -> x.setUp());
        // The means of u and v are 80 and -80, p is 4000/4128, and q is 0.
        edge.due("to -80 p", -77519380L, () -> x.turned(2));
        x.use(4, false);
        edge.due("left out", 4, () -> x.setUp());
        edge.due("it shifts nothing", 0L, () -> x.turned(2));
        edge.due("but it can be told what it misses by", -400, () -> x.residual(4, 0));
        edge.due("left out as a blunder", 1, () -> {
            x.use(4, true);
            return x.blunders(100);
        });
        edge.due("then it is used no more", true, () -> x.use(4, true));
    }

    private static void useTellsWhetherItChanges(Edge edge) {
        edge.sentence("Promise 5", "An observation is used, or left out");
        edge.idle("used already", false, Stands::ordinary, x -> x.use(0, true));
        edge.idle("left out already", false, Stands::ordinary, x -> x.use(2, false));
        StationRounds x = Stands.ordinary();
        edge.due("left out", true, () -> x.use(0, false));
        edge.due("left out once more", false, () -> x.use(0, false));
        edge.due("used", true, () -> x.use(0, true));
        edge.due("used once more", false, () -> x.use(0, true));
        edge.due("the last", true, () -> x.use(4, false));
        edge.due("used, of those left out", true, () -> x.use(2, true));
        edge.due("all but the last are used", 4, () -> x.count(2));
        edge.due("the last of twenty", true, () -> Stands.full().use(19, false));
    }

    private static void useRefused(Edge edge) {
        edge.sentence("Promise 5", "IndexOutOfBoundsException.");
        for (int number : new int[] {-1, 5, 20, Integer.MIN_VALUE, Integer.MAX_VALUE}) {
            edge.idle("use " + number, Edge.INDEX, Stands::ordinary, x -> x.use(number, true));
            edge.idle("leave out " + number, Edge.INDEX, Stands::ordinary, x -> x.use(number, false));
        }
        edge.idle("use 20 of twenty", Edge.INDEX, Stands::full, x -> x.use(20, true));
        edge.idle("use 0 of none", Edge.INDEX, Stands::empty, x -> x.use(0, true));
    }
}
