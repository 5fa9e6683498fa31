/** Each promise of the document: ordinary inputs, the edges that it names, and wrong inputs. */
public final class PromisesTest {
    private static final String INDEX = "throws.IndexOutOfBoundsException";
    private static final String STATE = "throws.IllegalStateException";
    private static final String ARGUMENT = "throws.IllegalArgumentException";
    private static final int[] TOO_FAR = {-10001, 10001, Integer.MIN_VALUE, Integer.MAX_VALUE};

    private static final Check CHECK = new Check("PromisesTest");

    public static void main(String[] args) {
        newObject();
        mark();
        observe();
        observeRefusesInOrder();
        prism();
        use();
        setUp();
        setUpThatCannotBe();
        turned();
        turnedIsExact();
        residual();
        residualIsAsAtTheSetUp();
        blunders();
        blundersOneAtATime();
        blundersThatCannotBe();
        sum();
        point();
        place();
        level();
        closed();
        open();
        unit();
        unitRefuses();
        readGoodRows();
        readWrongForms();
        readWrongNumbers();
        readAllOrNone();
        readFullPad();
        allTwentyObservations();
        count();
        CHECK.end();
    }

    private static void due(String what, Object want, Check.Call call) {
        CHECK.due(what, want, call);
    }

    /** Writes a text and reads it: what is due, and that the pad is empty then. */
    private static void dueOfText(StationRounds x, int want, String text) {
        Stands.write(x, text);
        due("read of '" + text + "'", want, () -> x.read());
        due("signs after read of '" + text + "'", 0, () -> x.count(5));
    }

    private static void newObject() {
        StationRounds x = new StationRounds();
        for (int i = 0; i < 6; i++) {
            int what = i;
            due("1: count " + what, 0, () -> x.count(what));
        }
        due("1: setUp", -1, () -> x.setUp());
        due("1: blunders", -1, () -> x.blunders(0));
        for (int i = 0; i < 4; i++) {
            int what = i;
            due("1: turned " + what, STATE, () -> x.turned(what));
        }
        due("1: sum", STATE, () -> x.sum());
        due("1: residual", INDEX, () -> x.residual(0, 0));
        due("1: place", INDEX, () -> x.place(0, 0));
        due("1: observe", INDEX, () -> x.observe(0, 0, 0, 0));
        due("1: prism", INDEX, () -> x.prism(0, 0));
        due("1: use", INDEX, () -> x.use(0, true));
        due("1: closed 0", INDEX, () -> x.closed(0));
        due("1: closed -1", 0, () -> x.closed(-1));
        due("1: open", 0, () -> x.open());
        due("1: read", 0, () -> x.read());
        due("1: NONE", -1, () -> StationRounds.NONE);
    }

    private static void mark() {
        StationRounds x = new StationRounds();
        for (int far : TOO_FAR) {
            due("2: x " + far, ARGUMENT, () -> x.mark(far, 0, 0));
            due("2: y " + far, ARGUMENT, () -> x.mark(0, far, 0));
            due("2: z " + far, ARGUMENT, () -> x.mark(0, 0, far));
        }
        due("2: refused marks don't count", 0, () -> x.count(0));
        due("2: low edge", 0, () -> x.mark(-10000, -10000, -10000));
        due("2: high edge", 1, () -> x.mark(10000, 10000, 10000));
        for (int i = 2; i < 12; i++) {
            due("2: number", i, () -> x.mark(0, 0, 0));
        }
        due("2: thirteenth", STATE, () -> x.mark(0, 0, 0));
        due("2: thirteenth, wrong too", STATE, () -> x.mark(10001, 0, 0));
        due("2: twelve", 12, () -> x.count(0));
    }

    private static void observe() {
        StationRounds x = new StationRounds();
        x.mark(1, 2, 3);
        x.mark(4, 5, 6);
        for (int far : TOO_FAR) {
            due("3: u " + far, ARGUMENT, () -> x.observe(0, far, 0, 0));
            due("3: v " + far, ARGUMENT, () -> x.observe(0, 0, far, 0));
            due("3: w " + far, ARGUMENT, () -> x.observe(0, 0, 0, far));
        }
        due("3: refused ones don't count", 0, () -> x.count(1));
        due("3: low edge", 0, () -> x.observe(0, -10000, -10000, -10000));
        due("3: high edge", 1, () -> x.observe(1, 10000, 10000, 10000));
        due("3: both are used", 2, () -> x.count(2));
        due("3: prism is 0 at first", 0, () -> x.prism(1, 5));
    }

    private static void observeRefusesInOrder() {
        StationRounds x = Stands.withObservations(19);
        due("3: no mark -1", INDEX, () -> x.observe(-1, 0, 0, 0));
        due("3: no mark 1", INDEX, () -> x.observe(1, 0, 0, 0));
        due("3: no mark, too far", INDEX, () -> x.observe(1, 10001, 0, 0));
        due("3: twentieth", 19, () -> x.observe(0, 0, 0, 0));
        due("3: twenty-first", STATE, () -> x.observe(0, 0, 0, 0));
        due("3: twenty-first, too far", STATE, () -> x.observe(0, 10001, 0, 0));
        due("3: twenty-first, no mark", INDEX, () -> x.observe(1, 10001, 0, 0));
        due("3: twenty", 20, () -> x.count(1));
    }

    private static void prism() {
        StationRounds x = Stands.square();
        due("4: first", 0, () -> x.prism(3, 1500));
        due("4: what it was", 1500, () -> x.prism(3, 3000));
        due("4: too tall", ARGUMENT, () -> x.prism(3, 3001));
        due("4: below 0", ARGUMENT, () -> x.prism(3, -1));
        due("4: refused ones change nothing", 3000, () -> x.prism(3, 0));
        due("4: the others stay", 0, () -> x.prism(2, 8));
        due("4: no observation 4", INDEX, () -> x.prism(4, 0));
        due("4: no observation -1", INDEX, () -> x.prism(-1, 0));
        due("4: no observation, too tall", INDEX, () -> x.prism(4, 3001));
        due("4: set up", 4, () -> x.setUp());
        due("4: the prism lessens up: -8 of four raise the height by 2", 6, () -> x.residual(2, 2));
        due("4: and the others miss by that height", -2, () -> x.residual(0, 2));
    }

    private static void use() {
        StationRounds x = Stands.square();
        due("5: used already", false, () -> x.use(1, true));
        due("5: left out", true, () -> x.use(1, false));
        due("5: left out already", false, () -> x.use(1, false));
        due("5: three are used", 3, () -> x.count(2));
        due("5: four stay told", 4, () -> x.count(1));
        due("5: set up without it", 3, () -> x.setUp());
        due("5: used again", true, () -> x.use(1, true));
        due("5: set up with it", 4, () -> x.setUp());
        due("5: no observation 4", INDEX, () -> x.use(4, true));
        due("5: no observation -1", INDEX, () -> x.use(-1, false));
        due("5: four are used", 4, () -> x.count(2));
    }

    private static void setUp() {
        StationRounds x = Stands.square();
        due("6: how many", 4, () -> x.setUp());
        due("6: p", 1000000L, () -> x.turned(0));
        due("6: q", 0L, () -> x.turned(1));
        StationRounds y = new StationRounds();
        y.mark(0, 0, 0);
        y.mark(0, 0, 1);
        y.observe(0, 5, 5, 1);
        y.observe(1, 5, 6, 1);
        y.observe(1, 5, 7, 1);
        y.point(0, 0, 0);
        due("6: that differ in v alone", 3, () -> y.setUp());
        due("6: height, mean -1/3, rounded down", -1, () -> y.place(0, 2));
        StationRounds z = new StationRounds();
        z.mark(7, 8, 9);
        z.observe(0, 5, 5, 1);
        z.observe(0, 6, 5, 1);
        due("6: that differ in u alone, of one mark", 2, () -> z.setUp());
        due("6: then there is no turn", 0L, () -> z.turned(0));
        due("6: but a shift", 7000000L, () -> z.turned(2));
        due("6: along y too", 8000000L, () -> z.turned(3));
    }

    private static void setUpThatCannotBe() {
        StationRounds x = new StationRounds();
        x.mark(0, 0, 0);
        x.mark(100, 0, 0);
        x.observe(0, 5, 5, 0);
        due("6: one", -1, () -> x.setUp());
        x.observe(1, 5, 5, 9);
        due("6: two that differ in w alone", -1, () -> x.setUp());
        due("6: it is not set up", STATE, () -> x.sum());
        x.observe(1, 6, 5, 0);
        due("6: a third elsewhere", 3, () -> x.setUp());
        due("6: p", 50000000L, () -> x.turned(0));
        x.use(2, false);
        due("6: without it", -1, () -> x.setUp());
        due("6: the former set-up stays", 50000000L, () -> x.turned(0));
        due("6: its residuals stay", -50, () -> x.residual(0, 0));
        due("6: its sum stays", 5000L + 6 * 6 + 3 * 3 + 3 * 3, () -> x.sum());
        x.use(0, false);
        x.use(1, false);
        due("6: none used", -1, () -> x.setUp());
    }

    private static void turned() {
        StationRounds x = new StationRounds();
        x.mark(0, 0, 0);
        x.mark(-1, -2, 0);
        x.mark(100, 50, 0);
        x.observe(0, 0, 0, 0);
        due("7: not set up", STATE, () -> x.turned(0));
        due("7: no 4, not set up", INDEX, () -> x.turned(4));
        x.observe(1, 3, 0, 0);
        x.setUp();
        due("7: p -1/3 rounded down", -333334L, () -> x.turned(0));
        due("7: q -2/3 rounded down", -666667L, () -> x.turned(1));
        due("7: s", 0L, () -> x.turned(2));
        due("7: t", 0L, () -> x.turned(3));
        due("7: no 4", INDEX, () -> x.turned(4));
        due("7: no -1", INDEX, () -> x.turned(-1));
        due("7: no least int", INDEX, () -> x.turned(Integer.MIN_VALUE));
        x.observe(2, 3, 6, 0);
        x.use(0, false);
        x.setUp();
        // 6i times p + iq is 101 + 52i: p is 52/6, q is -101/6; s is -1 - 3p, t is -2 - 3q.
        due("7: p of another", 8666666L, () -> x.turned(0));
        due("7: q of another", -16833334L, () -> x.turned(1));
        due("7: s of another", -27000000L, () -> x.turned(2));
        due("7: t of another", 48500000L, () -> x.turned(3));
    }

    private static void turnedIsExact() {
        StationRounds x = new StationRounds();
        x.mark(-10000, -10000, 0);
        x.mark(10000, 10000, 0);
        x.observe(0, 9999, 10000, 0);
        for (int i = 0; i < 18; i++) {
            x.observe(1, 10000, 10000, 0);
        }
        x.observe(0, 10000, 10000, 0);
        due("7: twenty", 20, () -> x.setUp());
        // The nineteen have a mean of 10000 less 20000/19: p and q are 20000 less that, all by 1.
        due("7: p, large", 18947368421L, () -> x.turned(0));
        due("7: q, large", 18947368421L, () -> x.turned(1));
        due("7: s, large: the mean, as p and q take each other's away", 8947368421L, () -> x.turned(2));
        due("7: t, large", -378938421052632L, () -> x.turned(3));
    }

    private static void residual() {
        StationRounds x = Stands.skewSquare(100, 0);
        due("8: not set up", STATE, () -> x.residual(0, 0));
        due("8: no axis, not set up", INDEX, () -> x.residual(0, 3));
        due("8: no observation, not set up", INDEX, () -> x.residual(4, 0));
        x.setUp();
        due("8: x of 0", 100, () -> x.residual(0, 0));
        due("8: x of 1", -100, () -> x.residual(1, 0));
        due("8: y of 1", 0, () -> x.residual(1, 1));
        due("8: z of 1", 0, () -> x.residual(1, 2));
        due("8: no axis 3", INDEX, () -> x.residual(0, 3));
        due("8: no axis -1", INDEX, () -> x.residual(0, -1));
        due("8: no observation 4", INDEX, () -> x.residual(4, 0));
        due("8: no observation -1", INDEX, () -> x.residual(-1, 0));
        x.observe(0, 0, 0, 0);
        due("8: told later", INDEX, () -> x.residual(4, 0));
        x.use(4, false);
        x.setUp();
        due("8: left out, but told", 1100, () -> x.residual(4, 0));
        due("8: left out, along y", 1000, () -> x.residual(4, 1));
        StationRounds y = new StationRounds();
        y.mark(0, 0, 0);
        y.mark(1, -1, 0);
        y.observe(0, 0, 0, 0);
        y.observe(1, 2, 0, 0);
        y.observe(0, 1, 0, 0);
        y.use(2, false);
        y.setUp();
        due("8: the place 1/2 is rounded down", 0, () -> y.residual(2, 0));
        due("8: the place -1/2 is rounded down", 1, () -> y.residual(2, 1));
    }

    private static void residualIsAsAtTheSetUp() {
        StationRounds x = Stands.skewSquare(100, 0);
        x.prism(0, 40);
        x.setUp();
        due("8: with its prism", 30, () -> x.residual(0, 2));
        x.prism(0, 0);
        x.use(0, false);
        due("8: a later prism changes nothing", 30, () -> x.residual(0, 2));
        due("8: a later use changes nothing", 100, () -> x.residual(0, 0));
        x.setUp();
        due("8: set up anew, without a prism", 0, () -> x.residual(0, 2));
        due("8: set up anew, by the others alone", 200, () -> x.residual(0, 0));
        due("8: set up anew, along y", 0, () -> x.residual(0, 1));
    }

    private static void blunders() {
        StationRounds x = Stands.skewSquare(100, 0);
        due("9: below 0", ARGUMENT, () -> x.blunders(-1));
        due("9: above 100000", ARGUMENT, () -> x.blunders(100001));
        due("9: a refused one sets nothing up", STATE, () -> x.sum());
        due("9: the greatest limit", 0, () -> x.blunders(100000));
        due("9: it sets up", 40000L, () -> x.sum());
        due("9: 100 is not above 100", 0, () -> x.blunders(100));
        due("9: above 99, then three are used", 1, () -> x.blunders(99));
        due("9: of equal ones the lowest", true, () -> x.use(0, true));
        due("9: with more than three", 4, () -> x.setUp());
        x.use(0, false);
        due("9: not with three", 0, () -> x.blunders(0));
        due("9: set up by three", 3, () -> x.count(2));
        StationRounds y = Stands.square();
        due("9: nothing is above 0", 0, () -> y.blunders(0));
        due("9: all are used", 4, () -> y.count(2));
    }

    private static void blundersOneAtATime() {
        StationRounds x = Stands.square();
        x.mark(500, 500, 0);
        x.observe(4, 500, 500, 4000);
        x.observe(4, 500, 800, 0);
        x.observe(4, 300, 500, 0);
        due("9: two blunders, but not that in height", 2, () -> x.blunders(20));
        due("9: five are left", 5, () -> x.count(2));
        due("9: one", true, () -> x.use(5, true));
        due("9: the other", true, () -> x.use(6, true));
        due("9: set up without both", 1000000L, () -> x.turned(0));
        due("9: the one's residual", 0, () -> x.residual(5, 0));
        due("9: the one's residual along y", -300, () -> x.residual(5, 1));
        due("9: the other's residual", 200, () -> x.residual(6, 0));
        due("9: again", 2, () -> x.blunders(20));
        due("9: what was left out already isn't counted", 0, () -> x.blunders(20));
    }

    private static void blundersThatCannotBe() {
        StationRounds x = Stands.square();
        x.setUp();
        for (int i = 0; i < 4; i++) {
            x.use(i, false);
        }
        due("9: none used", -1, () -> x.blunders(0));
        x.use(2, true);
        due("9: one used", -1, () -> x.blunders(0));
        due("9: the former set-up stays", 1000000L, () -> x.turned(0));
        due("9: what is used stays", 1, () -> x.count(2));
    }

    private static void sum() {
        StationRounds x = Stands.skewSquare(100, 0);
        due("10: not set up", STATE, () -> x.sum());
        x.prism(0, 40);
        x.setUp();
        due("10: three axes", 40000L + 30 * 30 + 3 * 10 * 10, () -> x.sum());
        x.use(0, false);
        x.prism(0, 0);
        x.observe(0, 9, 9, 9);
        due("10: as at the set-up", 41200L, () -> x.sum());
        x.use(4, false);
        x.use(3, false);
        x.setUp();
        due("10: not of those left out", 0L, () -> x.sum());
        StationRounds y = new StationRounds();
        y.mark(10000, 10000, 10000);
        y.mark(-10000, -10000, -10000);
        y.observe(0, 0, 0, -10000);
        y.observe(1, 0, 0, 10000);
        y.observe(0, 0, 0, -10000);
        y.observe(1, 0, 0, 10000);
        y.observe(1, 1, 0, 10000);
        y.use(4, true);
        y.setUp();
        // Height -4000: z misses by 24000 twice and by -16000 thrice.
        due("10: beyond an int", 800000000L + 2L * 24000 * 24000 + 3L * 16000 * 16000, () -> y.sum());
    }

    private static void point() {
        StationRounds x = new StationRounds();
        for (int far : TOO_FAR) {
            due("11: u " + far, ARGUMENT, () -> x.point(far, 0, 0));
            due("11: v " + far, ARGUMENT, () -> x.point(0, far, 0));
            due("11: w " + far, ARGUMENT, () -> x.point(0, 0, far));
        }
        due("11: low edge", 0, () -> x.point(-10000, -10000, -10000));
        due("11: high edge", 1, () -> x.point(10000, 10000, 10000));
        for (int i = 2; i < 30; i++) {
            due("11: number", i, () -> x.point(0, 0, 0));
        }
        due("11: thirty-first", STATE, () -> x.point(0, 0, 0));
        due("11: thirty-first, too far", STATE, () -> x.point(0, 10001, 0));
        due("11: thirty", 30, () -> x.count(3));
    }

    private static void place() {
        StationRounds x = new StationRounds();
        x.mark(0, 0, 5);
        x.mark(1, -1, 5);
        x.observe(0, 0, 0, 0);
        x.observe(1, 2, 0, 0);
        x.point(1, 1, -3);
        due("12: not set up", STATE, () -> x.place(0, 0));
        due("12: no axis, not set up", INDEX, () -> x.place(0, 3));
        due("12: no point, not set up", INDEX, () -> x.place(1, 0));
        x.setUp();
        due("12: x", 1, () -> x.place(0, 0));
        due("12: y", 0, () -> x.place(0, 1));
        due("12: z", 2, () -> x.place(0, 2));
        x.point(-1, 0, 0);
        due("12: told later: x -1/2 rounded down", -1, () -> x.place(1, 0));
        due("12: told later: y 1/2 rounded down", 0, () -> x.place(1, 1));
        due("12: no axis 3", INDEX, () -> x.place(0, 3));
        due("12: no axis -1", INDEX, () -> x.place(0, -1));
        due("12: no point 2", INDEX, () -> x.place(2, 0));
        due("12: no point -1", INDEX, () -> x.place(-1, 0));
        x.prism(0, 100);
        x.prism(1, 100);
        due("12: by the set-up as it was made", 2, () -> x.place(0, 2));
        x.setUp();
        due("12: by the set-up made anew", 102, () -> x.place(0, 2));
        StationRounds y = new StationRounds();
        y.mark(10000, 10000, 0);
        y.mark(-10000, -10000, 0);
        y.observe(0, 10000, -10000, 0);
        y.observe(1, 9999, -10000, 0);
        y.setUp();
        y.point(-10000, 10000, 0);
        due("12: far away along x", 10000 - 20000 * 20000 - 20000 * 20000, () -> y.place(0, 0));
        due("12: far away along y", 10000, () -> y.place(0, 1));
    }

    private static void level() {
        StationRounds x = new StationRounds();
        due("13: difference too low", ARGUMENT, () -> x.level(-100001, 1));
        due("13: difference too great", ARGUMENT, () -> x.level(100001, 1));
        due("13: no length", ARGUMENT, () -> x.level(0, 0));
        due("13: length below 0", ARGUMENT, () -> x.level(0, -1));
        due("13: length too great", ARGUMENT, () -> x.level(0, 10001));
        due("13: refused ones don't count", 0, () -> x.count(4));
        due("13: low edge", 0, () -> x.level(-100000, 1));
        due("13: high edge", 1, () -> x.level(100000, 10000));
        for (int i = 2; i < 12; i++) {
            due("13: number", i, () -> x.level(0, 1));
        }
        due("13: thirteenth", STATE, () -> x.level(0, 1));
        due("13: thirteenth, wrong too", STATE, () -> x.level(0, 0));
        due("13: twelve", 12, () -> x.count(4));
    }

    private static void closed() {
        StationRounds x = new StationRounds();
        x.level(-1, 1);
        due("14: one alone", 0, () -> x.closed(0));
        x.level(0, 1);
        x.level(0, 1);
        due("14: -1/3 rounded down", 0, () -> x.closed(0));
        due("14: -2/3 rounded down less that", 0, () -> x.closed(1));
        due("14: -1 less that", 0, () -> x.closed(2));
        due("14: the sum as told", -1, () -> x.closed(-1));
        due("14: no row 3", INDEX, () -> x.closed(3));
        due("14: no row -2", INDEX, () -> x.closed(-2));
        StationRounds y = new StationRounds();
        for (int i = 0; i < 12; i++) {
            y.level(100000, i == 0 ? 1 : 10000);
        }
        due("14: the greatest sum", 1200000, () -> y.closed(-1));
        due("14: 1200000/110001 rounded down", 99990, () -> y.closed(0));
        due("14: the sum is shared out", 0, () -> {
            int all = 0;
            for (int i = 0; i < 12; i++) {
                all += y.closed(i);
            }
            return all;
        });
    }

    private static void open() {
        StationRounds x = Stands.square();
        x.level(5, 5);
        x.level(6, 6);
        due("15: how many", 2, () -> x.open());
        due("15: none are left", 0, () -> x.count(4));
        due("15: no row 0", INDEX, () -> x.closed(0));
        due("15: nothing in all", 0, () -> x.closed(-1));
        due("15: none again", 0, () -> x.open());
        due("15: from 0 on again", 0, () -> x.level(7, 7));
        due("15: the new one alone", 7, () -> x.closed(-1));
        due("15: the rest stays", 4, () -> x.count(1));
    }

    private static void unit() {
        StationRounds x = new StationRounds();
        x.mark(0, 0, 0);
        due("16: none", 0, () -> x.unit(0, 0));
        due("16: 0 is none wherever it stands", 2, () -> x.unit('0' << 16, ' ' << 24));
        due("16: lowest bits first, a ahead of b", 7, () -> x.unit(Stands.packed("1 2", 0), Stands.packed(" 3", 0)));
        due("16: the row's end", 8, () -> x.unit(0, ';'));
        due("16: signs", 8, () -> x.count(5));
        due("16: it is '0 1 2 3;'", 1, () -> x.read());
        Stands.write(x, "0123456789- ;");
        due("16: every sign", 13, () -> x.count(5));
    }

    private static void unitRefuses() {
        StationRounds x = new StationRounds();
        int[] bad = {1, ' ' - 1, '!', ',', '.', '/', ':', '<', 'A', 127, 128, 0xB0, 255};
        for (int sign : bad) {
            for (int i = 0; i < 4; i++) {
                int bits = 0x30303030 & ~(255 << 8 * i) | sign << 8 * i;
                due("16: sign " + sign + " in a", ARGUMENT, () -> x.unit(bits, 0));
                due("16: sign " + sign + " in b", ARGUMENT, () -> x.unit(0x30303030, bits));
            }
        }
        due("16: refused ones change nothing", 0, () -> x.count(5));
        for (int i = 1; i <= 24; i++) {
            int want = 8 * i;
            due("16: how many", want, () -> x.unit(0x30303030, 0x30303030));
        }
        due("16: 199", 199, () -> x.unit(0x30303030, 0x303030));
        due("16: 201", STATE, () -> x.unit('0', '0'));
        due("16: 201, a wrong one too", STATE, () -> x.unit('A', '0'));
        due("16: a wrong one", ARGUMENT, () -> x.unit('A', 0));
        due("16: 200", 200, () -> x.unit(0, '0'));
        due("16: none more", 200, () -> x.unit(0, 0));
        due("16: one more", STATE, () -> x.unit(0, '0' << 24));
        due("16: one more, wrong", STATE, () -> x.unit('A', 0));
        due("16: 200 stay", 200, () -> x.count(5));
        due("16: it is no row", -1, () -> x.read());
    }

    private static void readGoodRows() {
        StationRounds x = new StationRounds();
        x.mark(0, 0, 0);
        x.mark(100, 200, 300);
        dueOfText(x, 0, "");
        dueOfText(x, 2, "0 0 0 0;1 100 200 7;");
        due("17: used", 2, () -> x.count(2));
        due("17: set up", 2, () -> x.setUp());
        due("17: p", 1000000L, () -> x.turned(0));
        due("17: q", 0L, () -> x.turned(1));
        due("17: up and mark: height 146", 147, () -> x.residual(1, 2));
        due("17: no prism", 0, () -> x.prism(1, 1));
        dueOfText(x, 1, "-0 -010000 010000 -000001;");
        x.setUp();
        due("17: the signs of numbers", 3, () -> x.count(1));
        dueOfText(x, 1, "000001 -10000 10000 10000;");
        dueOfText(x, 1, "1 0 -0 00;");
        due("17: five in all", 5, () -> x.count(1));
    }

    private static void readWrongForms() {
        StationRounds x = new StationRounds();
        x.mark(0, 0, 0);
        String[] bad = {
            ";", " ", "-", "0", "0 1 2;", "0 1 2 3 ;", " 0 1 2 3;", "0  1 2 3;", "0 1 2 3 4;",
            "0 1 2 -;", "0 - 2 3;", "0 --1 2 3;", "0 1- 2 3;", "0 1-2 3;", "0 1 2 ;", "0 1;2 3;", "- 1 2 3;",
            "0000000 1 2 3;", "0 0000001 2 3;", "0 1 2 -0000003;", "0 1 2 99999999999999999999;", "0 1 2 3-;",
        };
        for (String text : bad) {
            dueOfText(x, -1, text);
            dueOfText(x, -2, "0 1 2 3;" + text);
            dueOfText(x, -3, "0 1 2 3;-0 000001 -2 3;" + text + ";0 1 2 3;");
        }
        dueOfText(x, -1, "0 1 2 3");
        dueOfText(x, -2, "0 1 2 3;0 1 2 3");
        due("17: none of them came", 0, () -> x.count(1));
    }

    private static void readWrongNumbers() {
        StationRounds x = new StationRounds();
        x.mark(0, 0, 0);
        x.mark(0, 0, 0);
        String[] bad = {
            "2 0 0 0;", "-1 0 0 0;", "999999 0 0 0;", "0 10001 0 0;", "0 -10001 0 0;", "0 0 10001 0;",
            "0 0 -10001 0;", "0 0 0 10001;", "0 0 0 -10001;", "0 999999 0 0;", "0 0 0 -999999;",
        };
        for (String text : bad) {
            dueOfText(x, -1, text);
            dueOfText(x, -2, "1 0 0 0;" + text + text);
        }
        due("17: none of them came", 0, () -> x.count(1));
    }

    private static void readAllOrNone() {
        StationRounds x = Stands.withObservations(18);
        x.setUp();
        dueOfText(x, -3, "0 5 5 5;0 6 6 6;0 7 7 7;");
        due("17: none", 18, () -> x.count(1));
        due("17: none used", 18, () -> x.count(2));
        due("17: nineteenth was not told", INDEX, () -> x.prism(18, 0));
        dueOfText(x, -3, "0 5 5 5;0 6 6 6;0 7 7 7;;");
        dueOfText(x, -2, "0 5 5 5;;0 7 7 7;");
        dueOfText(x, 2, "0 5 5 5;0 6 6 6;");
        due("17: twenty", 20, () -> x.count(1));
        due("17: told later", INDEX, () -> x.residual(19, 0));
        dueOfText(x, -1, "0 5 5 5;");
        dueOfText(x, 0, "");
        due("17: set up by all", 20, () -> x.setUp());
        due("17: the last one's up", 0, () -> x.residual(19, 2) + 6 - x.residual(0, 2));
        StationRounds y = new StationRounds();
        y.mark(0, 0, 0);
        dueOfText(y, 20, "0 1 1 1;".repeat(20));
        StationRounds z = new StationRounds();
        z.mark(0, 0, 0);
        dueOfText(z, -21, "0 1 1 1;".repeat(21));
        due("17: none of them", 0, () -> z.count(1));
        due("17: a new one is 0", 0, () -> z.observe(0, 0, 0, 0));
    }

    private static void readFullPad() {
        StationRounds x = new StationRounds();
        x.mark(0, 0, 0);
        String row = "0 10000 10000 10000;";
        dueOfText(x, -10, row.repeat(9) + "0 10000 -10000 00100");
        dueOfText(x, -10, row.repeat(9) + "0 010000 -010000 10 ");
        dueOfText(x, -10, row.repeat(9) + "0 010000 -010000 10-");
        dueOfText(x, 10, row.repeat(10));
        due("17: ten", 10, () -> x.count(1));
    }

    private static void allTwentyObservations() {
        StationRounds x = Stands.square();
        for (int i = 4; i < 20; i++) {
            x.observe(i % 4, i % 4 == 0 || i % 4 == 3 ? 1000 : -1000, i % 4 < 2 ? 1000 : -1000, 0);
        }
        due("6: twenty", 20, () -> x.setUp());
        due("10: twenty", 0L, () -> x.sum());
        due("9: twenty", 0, () -> x.blunders(0));
        due("8: the last one", 0, () -> x.residual(19, 1));
        due("8: no observation 20", INDEX, () -> x.residual(20, 1));
        due("18: twenty used", 20, () -> x.count(2));
    }

    private static void count() {
        StationRounds x = Stands.square();
        x.mark(0, 0, 0);
        x.use(0, false);
        x.point(0, 0, 0);
        x.point(0, 0, 0);
        x.level(1, 1);
        x.unit('0', 0x303030);
        x.unit('0', 0x3030);
        due("18: marks", 5, () -> x.count(0));
        due("18: observations", 4, () -> x.count(1));
        due("18: used", 3, () -> x.count(2));
        due("18: points", 2, () -> x.count(3));
        due("18: rows", 1, () -> x.count(4));
        due("18: signs", 7, () -> x.count(5));
        due("18: no 6", INDEX, () -> x.count(6));
        due("18: no -1", INDEX, () -> x.count(-1));
        due("18: no least int", INDEX, () -> x.count(Integer.MIN_VALUE));
    }
}
