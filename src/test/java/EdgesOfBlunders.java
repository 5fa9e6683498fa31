/** Blunders: which one is left out, when it ends, and what it answers. */
final class EdgesOfBlunders {
    private static final String LEAVES = "Sets up, then leaves out blunders";

    private EdgesOfBlunders() {
    }

    static void all(Edge edge) {
        limitIsSquared(edge);
        bothAxesButNotUp(edge);
        lowestOfEqualOnes(edge);
        ofTheUsedOnes(edge);
        moreThanThree(edge);
        tillThereIsNone(edge);
        setsUpAgain(edge);
        howManyWereLeftOut(edge);
        firstSetUpCannotBe(edge);
        nextSetUpCanAlwaysBe(edge);
        limits(edge);
    }

    private static String usedOf(StationRounds x) {
        StringBuilder used = new StringBuilder();
        for (int i = 0, observations = x.count(1); i < observations; i++) {
            boolean wasUsed = !x.use(i, true);
            x.use(i, wasUsed);
            used.append(wasUsed ? 'x' : '.');
        }
        return used.toString();
    }

    private static void limitIsSquared(Edge edge) {
        edge.sentence("Promise 9", LEAVES);
        edge.due("3, 4 are not above 5", 0, () -> Stands.skewSquare(3, 4).blunders(5));
        edge.due("3, 4 are above 4", 1, () -> Stands.skewSquare(3, 4).blunders(4));
        edge.due("0, 5 are not above 5", 0, () -> Stands.skewSquare(0, 5).blunders(5));
        edge.due("1, 5 are above 5", 1, () -> Stands.skewSquare(1, 5).blunders(5));
        edge.due("5, 1 are above 5", 1, () -> Stands.skewSquare(5, 1).blunders(5));
        edge.due("1, 0 are above 0", 1, () -> Stands.skewSquare(1, 0).blunders(0));
        edge.due("0, -1 are above 0", 1, () -> Stands.skewSquare(0, -1).blunders(0));
        edge.due("0, 0 are not above 0", 0, () -> Stands.square().blunders(0));
        edge.due("9000, 9000 are above 12727", 1, () -> Stands.skewSquare(9000, 9000).blunders(12727));
        edge.due("9000, 9000 are not above 12728", 0, () -> Stands.skewSquare(9000, 9000).blunders(12728));
        for (int limit : new int[] {46340, 46341, 65536, 92682, 100000}) {
            edge.due("not above " + limit + ", whose square is beyond an int", 0,
                    () -> Stands.skewSquare(9000, 9000).blunders(limit));
        }
    }

    private static void bothAxesButNotUp(Edge edge) {
        edge.sentence("Promise 9", LEAVES);
        edge.due("30 along x alone", 0, () -> Stands.skewSquare(30, 0).blunders(30));
        edge.due("30 along y alone", 0, () -> Stands.skewSquare(0, 30).blunders(30));
        edge.due("30 along both", 1, () -> Stands.skewSquare(30, 30).blunders(30));
        StationRounds x = Stands.square();
        x.observe(0, 1000, 1000, 10000);
        x.prism(1, 3000);
        edge.due("up is no blunder", 0, () -> x.blunders(0));
        edge.due("however it misses", true, () -> x.residual(4, 2) < -5000);
    }

    private static void lowestOfEqualOnes(Edge edge) {
        edge.sentence("Promise 9", LEAVES);
        StationRounds x = Stands.skewSquare(30, 40);
        edge.due("of four equal ones", 1, () -> x.blunders(49));
        edge.due("the lowest", ".xxx", () -> usedOf(x));
        StationRounds y = new StationRounds();
        y.mark(0, 0, 0);
        y.observe(0, 5, 5, 0);
        y.use(0, false);
        for (int i = 0; i < 4; i++) {
            int way = i % 2 == 0 ? 30 : -30;
            y.mark(Stands.CORNERS[i][0], Stands.CORNERS[i][1] + way, 0);
            y.observe(i + 1, Stands.CORNERS[i][0], Stands.CORNERS[i][1], 0);
        }
        edge.due("of four equal ones behind one left out", 1, () -> y.blunders(29));
        edge.due("the lowest of the used ones", "..xxx", () -> usedOf(y));
    }

    private static void ofTheUsedOnes(Edge edge) {
        edge.sentence("Promise 9", LEAVES);
        StationRounds x = Stands.square();
        x.mark(10000, 10000, 0);
        x.observe(4, -10000, -10000, 0);
        x.use(4, false);
        edge.due("one left out before, far off", 0, () -> x.blunders(0));
        edge.due("the rest stays", "xxxx.", () -> usedOf(x));
        edge.due("far off", 20000, () -> x.residual(4, 0));
    }

    private static void moreThanThree(Edge edge) {
        edge.sentence("Promise 9", LEAVES);
        StationRounds x = Stands.skewSquare(3000, 4000);
        x.use(0, false);
        edge.due("three are used", 0, () -> x.blunders(0));
        edge.due("three stay", ".xxx", () -> usedOf(x));
        edge.due("they are set up", true, () -> x.sum() > 0);
        x.use(1, false);
        edge.due("two are used", 0, () -> x.blunders(0));
        edge.due("two stay", "..xx", () -> usedOf(x));
        StationRounds y = Stands.skewSquare(3000, 4000);
        edge.due("four are used", 1, () -> y.blunders(0));
        edge.due("three are left", 3, () -> y.count(2));
        edge.due("and miss still", true, () -> y.sum() > 0);
        edge.due("twenty are used", 17, () -> scattered(20).blunders(0));
        edge.due("nineteen are used", 16, () -> scattered(19).blunders(0));
        edge.due("five are used", 2, () -> scattered(5).blunders(0));
    }

    /** So many observations that have nothing to do with one another. */
    private static StationRounds scattered(int many) {
        StationRounds x = new StationRounds();
        for (int i = 0; i < 12; i++) {
            x.mark(i * i * i * 37 % 20001 - 10000, i * 7919 % 20001 - 10000, i);
        }
        for (int i = 0; i < many; i++) {
            x.observe(i * 5 % 12, i * i * 1013 % 20001 - 10000, i * i * i * 97 % 20001 - 10000, -i);
        }
        return x;
    }

    /** A square with two blunders behind it: 5 is off by 300, and 6, but for that, by 200. */
    private static StationRounds twoBlunders() {
        StationRounds x = Stands.square();
        x.mark(500, 500, 0);
        x.observe(4, 500, 500, 0);
        x.observe(4, 500, 800, 0);
        x.observe(4, 300, 500, 0);
        return x;
    }

    private static void tillThereIsNone(Edge edge) {
        edge.sentence("Promise 9", LEAVES);
        StationRounds x = twoBlunders();
        edge.due("two", 2, () -> x.blunders(20));
        edge.due("these two", "xxxxx..", () -> usedOf(x));
        StationRounds y = twoBlunders();
        edge.due("one is above 180", 1, () -> y.blunders(180));
        edge.due("the greater one", "xxxxx.x", () -> usedOf(y));
        edge.due("once more", 0, () -> y.blunders(180));
    }

    private static void setsUpAgain(Edge edge) {
        edge.sentence("Promise 9", LEAVES);
        StationRounds x = twoBlunders();
        x.blunders(20);
        edge.due("p by those that are left", 1000000L, () -> x.turned(0));
        edge.due("s by those that are left", 0L, () -> x.turned(2));
        edge.due("the sum of those that are left", 0L, () -> x.sum());
        edge.due("a residual of one that was left out", -300, () -> x.residual(5, 1));
        StationRounds y = scattered(20);
        y.blunders(4000);
        StationRounds z = scattered(20);
        z.blunders(4000);
        z.setUp();
        edge.due("as setUp would then", "none", () -> Trace.difference(Trace.told(z), Trace.told(y)));
        StationRounds none = Stands.ordinary();
        none.blunders(100000);
        StationRounds made = Stands.ordinary();
        made.setUp();
        edge.due("it sets up if nothing is left out, too", "none",
                () -> Trace.difference(Trace.told(made), Trace.told(none)));
    }

    private static void howManyWereLeftOut(Edge edge) {
        edge.sentence("Promise 9", "How many were left out; -1");
        StationRounds x = twoBlunders();
        x.use(5, false);
        edge.due("not what was left out before", 1, () -> x.blunders(20));
        edge.due("none is left", 0, () -> x.blunders(20));
        x.use(5, true);
        x.use(6, true);
        edge.due("both again", 2, () -> x.blunders(20));
    }

    private static void firstSetUpCannotBe(Edge edge) {
        edge.sentence("Promise 9", "How many were left out; -1");
        edge.idle("none is told", -1, Stands::empty, x -> x.blunders(0));
        edge.idle("one is told", -1, () -> Stands.withObservations(1), x -> x.blunders(0));
        edge.idle("the former set-up stays", -1, () -> {
            StationRounds x = Stands.ordinary();
            x.use(0, false);
            x.use(1, false);
            x.use(4, false);
            return x;
        }, x -> x.blunders(0));
        edge.idle("twenty alike", -1, () -> {
            StationRounds x = Stands.straight();
            x.setUp();
            x.use(0, false);
            x.use(1, false);
            for (int i = 2; i < 20; i++) {
                x.observe(i % 2, 7, 7, i);
            }
            return x;
        }, x -> x.blunders(0));
        edge.due("two that differ", 0, () -> Stands.straight().blunders(0));
    }

    /**
     * If all the others lie at one spot, the one elsewhere misses nothing and is never left out: so no set-up
     * behind the first one can fail, and this is the nearest that can be told of the sentence.
     */
    private static void nextSetUpCanAlwaysBe(Edge edge) {
        edge.sentence("Promise 9", "A set-up that can't be then ends it, too");
        for (int i = 4; i <= 20; i++) {
            int many = i;
            StationRounds x = scattered(0);
            for (int k = 1; k < many; k++) {
                x.observe(k % 12, 100, -100, 0);
            }
            x.observe(0, 101, -100, 0);
            edge.due(many + ", all but the last at one spot", many - 3, () -> x.blunders(0));
            edge.due("the last of " + many + " is never left out", false, () -> x.use(many - 1, true));
            edge.due("three of " + many + " are left", 3, () -> x.count(2));
            edge.due("the last of " + many + " misses nothing", 0, () -> x.residual(many - 1, 0));
        }
    }

    private static void limits(Edge edge) {
        edge.sentence("Promise 9", "IllegalArgumentException: limit is not 0 .. 100000.");
        for (int limit : new int[] {-1, 100001, Integer.MIN_VALUE, Integer.MAX_VALUE}) {
            edge.idle("limit " + limit, Edge.ARGUMENT, Stands::ordinary, x -> x.blunders(limit));
            edge.idle("limit " + limit + " of none", Edge.ARGUMENT, Stands::empty, x -> x.blunders(limit));
            edge.idle("limit " + limit + ", not set up", Edge.ARGUMENT, Stands::bare, x -> x.blunders(limit));
        }
        edge.due("limit 0", 1, () -> Stands.skewSquare(30, 40).blunders(0));
        edge.due("limit 100000", 0, () -> Stands.skewSquare(30, 40).blunders(100000));
    }
}
