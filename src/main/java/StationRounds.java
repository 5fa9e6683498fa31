/**
 * Set-ups of a station among marks, new points told by them, and level loops.
 *
 * <p>All rows are made in the constructors and used again, so that no call makes an object
 * (but for an exception that the document asks for).
 */
public final class StationRounds {
    public static final int NONE = -1;

    private static final int AXES = 3;
    private static final int MOST_MARKS = 12;
    private static final int MOST_OBSERVATIONS = 20;
    private static final int MOST_POINTS = 30;
    private static final int MOST_LEVELS = 12;
    private static final int MOST_SIGNS = 200;
    private static final int MOST_DIGITS = 6;
    private static final int NUMBERS_IN_A_ROW = 4;
    private static final int FARTHEST = 10_000;
    private static final int TALLEST_PRISM = 3_000;
    private static final int GREATEST_DIFFERENCE = 100_000;
    private static final int GREATEST_LENGTH = 10_000;
    private static final int GREATEST_LIMIT = 100_000;
    private static final int FEWEST_WITHOUT_BLUNDERS = 3;
    private static final long MILLION = 1_000_000L;

    private final Spots marks;
    private final Spots points;
    private final Observations observations;
    private final SetUp station;
    private final Levels levels;
    private final Pad pad;

    public StationRounds() {
        marks = new Spots(MOST_MARKS);
        points = new Spots(MOST_POINTS);
        observations = new Observations();
        station = new SetUp();
        levels = new Levels();
        pad = new Pad();
    }

    public int mark(int x, int y, int z) throws IllegalStateException, IllegalArgumentException {
        if (marks.isFull()) {
            throw new IllegalStateException("there are twelve marks");
        }
        if (!areNear(x, y, z)) {
            throw new IllegalArgumentException("a mark lies too far away");
        }
        return marks.add(x, y, z);
    }

    public int observe(int mark, int u, int v, int w)
            throws IndexOutOfBoundsException, IllegalStateException, IllegalArgumentException {
        if (!marks.has(mark)) {
            throw new IndexOutOfBoundsException("no such mark");
        }
        if (observations.isFull()) {
            throw new IllegalStateException("there are twenty observations");
        }
        if (!areNear(u, v, w)) {
            throw new IllegalArgumentException("an observation lies too far away");
        }
        return observations.add(marks, mark, u, v, w);
    }

    public int prism(int observation, int height)
            throws IndexOutOfBoundsException, IllegalArgumentException {
        if (!observations.has(observation)) {
            throw new IndexOutOfBoundsException("no such observation");
        }
        if (height < 0 || height > TALLEST_PRISM) {
            throw new IllegalArgumentException("a prism's height is 0 to 3000");
        }
        int former = observations.prism[observation];
        observations.prism[observation] = height;
        return former;
    }

    public boolean use(int observation, boolean on) throws IndexOutOfBoundsException {
        if (!observations.has(observation)) {
            throw new IndexOutOfBoundsException("no such observation");
        }
        boolean changes = observations.used[observation] != on;
        observations.used[observation] = on;
        return changes;
    }

    public int setUp() {
        return station.makeBy(observations) ? observations.countUsed() : NONE;
    }

    public long turned(int what) throws IndexOutOfBoundsException, IllegalStateException {
        if (!station.hasPart(what)) {
            throw new IndexOutOfBoundsException("no such part of a set-up");
        }
        if (!station.made) {
            throw new IllegalStateException("not set up");
        }
        return station.millionthsOf(what);
    }

    public int residual(int observation, int axis)
            throws IndexOutOfBoundsException, IllegalStateException {
        if (!observations.has(observation) || !isAxis(axis)) {
            throw new IndexOutOfBoundsException("no such observation or axis");
        }
        if (!station.made) {
            throw new IllegalStateException("not set up");
        }
        if (!station.knows(observation)) {
            throw new IndexOutOfBoundsException("the observation was told after the set-up");
        }
        return station.miss[axis][observation];
    }

    public int blunders(int limit) throws IllegalArgumentException {
        if (limit < 0 || limit > GREATEST_LIMIT) {
            throw new IllegalArgumentException("a limit is 0 to 100000");
        }
        if (!station.makeBy(observations)) {
            return NONE;
        }
        long bound = (long) limit * limit;
        int leftOut = 0;
        while (leftOut < MOST_OBSERVATIONS && leaveOutWorst(bound)) {
            leftOut++;
        }
        return leftOut;
    }

    public long sum() throws IllegalStateException {
        if (!station.made) {
            throw new IllegalStateException("not set up");
        }
        return station.sumOfSquares();
    }

    public int point(int u, int v, int w) throws IllegalStateException, IllegalArgumentException {
        if (points.isFull()) {
            throw new IllegalStateException("there are thirty points");
        }
        if (!areNear(u, v, w)) {
            throw new IllegalArgumentException("a point lies too far away");
        }
        return points.add(u, v, w);
    }

    public int place(int point, int axis) throws IndexOutOfBoundsException, IllegalStateException {
        if (!points.has(point) || !isAxis(axis)) {
            throw new IndexOutOfBoundsException("no such point or axis");
        }
        if (!station.made) {
            throw new IllegalStateException("not set up");
        }
        return station.placeAlong(axis, points.first[point], points.second[point], points.third[point]);
    }

    public int level(int difference, int length)
            throws IllegalStateException, IllegalArgumentException {
        if (levels.isFull()) {
            throw new IllegalStateException("there are twelve rows of levels");
        }
        if (difference < -GREATEST_DIFFERENCE || difference > GREATEST_DIFFERENCE) {
            throw new IllegalArgumentException("a difference is -100000 to 100000");
        }
        if (length < 1 || length > GREATEST_LENGTH) {
            throw new IllegalArgumentException("a length is 1 to 10000");
        }
        return levels.add(difference, length);
    }

    public int closed(int row) throws IndexOutOfBoundsException {
        if (row == NONE) {
            return levels.sumOfDifferences();
        }
        if (!levels.has(row)) {
            throw new IndexOutOfBoundsException("no such row of levels");
        }
        return levels.closedDifference(row);
    }

    public int open() {
        int former = levels.count;
        levels.count = 0;
        return former;
    }

    public int unit(int a, int b) throws IllegalStateException, IllegalArgumentException {
        if (pad.count + Pad.signsIn(a) + Pad.signsIn(b) > MOST_SIGNS) {
            throw new IllegalStateException("there would be more than 200 signs");
        }
        if (!Pad.isGood(a) || !Pad.isGood(b)) {
            throw new IllegalArgumentException("a sign is none of the pad's");
        }
        pad.addSignsOf(a);
        pad.addSignsOf(b);
        return pad.count;
    }

    public int read() {
        int before = observations.count;
        int wrongRow = observeRows();
        int answer = wrongRow == NONE ? observations.count - before : -1 - wrongRow;
        if (wrongRow != NONE) {
            observations.count = before;
        }
        pad.count = 0;
        return answer;
    }

    public int count(int what) throws IndexOutOfBoundsException {
        switch (what) {
            case 0:
                return marks.count;
            case 1:
                return observations.count;
            case 2:
                return observations.countUsed();
            case 3:
                return points.count;
            case 4:
                return levels.count;
            case 5:
                return pad.count;
            default:
                throw new IndexOutOfBoundsException("nothing of that number is counted");
        }
    }

    /** Leaves the worst blunder out and sets up without it: whether there was one to leave out. */
    private boolean leaveOutWorst(long bound) {
        if (observations.countUsed() <= FEWEST_WITHOUT_BLUNDERS) {
            return false;
        }
        int worst = station.worstAbove(bound);
        if (worst == NONE) {
            return false;
        }
        observations.used[worst] = false;
        if (!station.makeBy(observations)) {
            observations.used[worst] = true;
            return false;
        }
        return true;
    }

    /** Turns the pad's rows into observations up to the first wrong row: that row, or NONE. */
    private int observeRows() {
        pad.rewind();
        for (int row = 0; row < MOST_SIGNS && !pad.isAtEnd(); row++) {
            if (!pad.nextRow() || !observeNumbers(pad.numbers)) {
                return row;
            }
        }
        return NONE;
    }

    private boolean observeNumbers(int[] numbers) {
        int mark = numbers[0];
        int u = numbers[1];
        int v = numbers[2];
        int w = numbers[3];
        if (!marks.has(mark) || observations.isFull() || !areNear(u, v, w)) {
            return false;
        }
        observations.add(marks, mark, u, v, w);
        return true;
    }

    private static boolean isAxis(int axis) {
        return axis >= 0 && axis < AXES;
    }

    private static boolean areNear(int a, int b, int c) {
        return isNear(a) && isNear(b) && isNear(c);
    }

    private static boolean isNear(int a) {
        return a >= -FARTHEST && a <= FARTHEST;
    }

    /** The quotient rounded down; every divisor that comes here is above 0, and is looked at all the same. */
    private static long dividedDown(long dividend, long divisor) {
        return divisor <= 0 ? 0 : Math.floorDiv(dividend, divisor);
    }

    /** Marks, or points: three numbers each. */
    private static final class Spots {
        final int[] first;
        final int[] second;
        final int[] third;
        int count;

        Spots(int most) {
            int room = Math.max(most, 0);
            first = new int[room];
            second = new int[room];
            third = new int[room];
        }

        boolean has(int spot) {
            return spot >= 0 && spot < count;
        }

        boolean isFull() {
            return count >= first.length;
        }

        int add(int a, int b, int c) {
            first[count] = a;
            second[count] = b;
            third[count] = c;
            count++;
            return count - 1;
        }
    }

    /** Observations, each with a copy of its mark's x, y, z: a mark never changes once it is told. */
    private static final class Observations {
        final int[] x = new int[MOST_OBSERVATIONS];
        final int[] y = new int[MOST_OBSERVATIONS];
        final int[] z = new int[MOST_OBSERVATIONS];
        final int[] u = new int[MOST_OBSERVATIONS];
        final int[] v = new int[MOST_OBSERVATIONS];
        final int[] w = new int[MOST_OBSERVATIONS];
        final int[] prism = new int[MOST_OBSERVATIONS];
        final boolean[] used = new boolean[MOST_OBSERVATIONS];
        int count;

        boolean has(int observation) {
            return observation >= 0 && observation < count;
        }

        boolean isFull() {
            return count >= MOST_OBSERVATIONS;
        }

        int add(Spots marks, int mark, int across, int along, int up) {
            x[count] = marks.first[mark];
            y[count] = marks.second[mark];
            z[count] = marks.third[mark];
            u[count] = across;
            v[count] = along;
            w[count] = up;
            prism[count] = 0;
            used[count] = true;
            count++;
            return count - 1;
        }

        int countUsed() {
            int n = 0;
            for (int i = 0; i < count; i++) {
                n += used[i] ? 1 : 0;
            }
            return n;
        }

        int upLessPrism(int observation) {
            return w[observation] - prism[observation];
        }
    }

    /** What the used observations add up to: all that the least sum of squares needs. */
    private static final class Sums {
        long n;
        long x;
        long y;
        long u;
        long v;
        long squares;
        long dots;
        long crosses;
        long rises;

        void addUp(Observations all) {
            clear();
            for (int i = 0; i < all.count; i++) {
                if (all.used[i]) {
                    add(all, i);
                }
            }
        }

        private void clear() {
            n = 0;
            x = 0;
            y = 0;
            u = 0;
            v = 0;
            squares = 0;
            dots = 0;
            crosses = 0;
            rises = 0;
        }

        private void add(Observations all, int i) {
            long across = all.u[i];
            long along = all.v[i];
            n++;
            x += all.x[i];
            y += all.y[i];
            u += across;
            v += along;
            squares += across * across + along * along;
            dots += across * all.x[i] + along * all.y[i];
            crosses += across * all.y[i] - along * all.x[i];
            rises += all.z[i] - all.upLessPrism(i);
        }

        /** Above 0 just if two of them differ in u or v. */
        long spread() {
            return n * squares - u * u - v * v;
        }

        /** p times the spread. */
        long cosine() {
            return n * dots - u * x - v * y;
        }

        /** q times the spread. */
        long sine() {
            return n * crosses - u * y + v * x;
        }
    }

    /**
     * A set-up as it was made: later changes of the observations don't reach it.
     *
     * <p>p, q, s and t are kept exactly, as whole numbers over one divisor. With twenty observations
     * within 10000 the spread, cosine and sine stay within 8e10, the divisor within 1.6e12 and every
     * dividend within 1e17, so longs hold them all; and |p|, |q| stay below 28285 (places whose u, v
     * differ lie 1 apart at least), so a place stays below 1e9 and an int holds it.
     */
    private static final class SetUp {
        static final int P = 0;
        static final int Q = 1;
        static final int S = 2;
        static final int T = 3;
        static final int PARTS = 4;

        final Sums sums = new Sums();
        final long[] part = new long[PARTS];
        final int[][] miss = new int[AXES][MOST_OBSERVATIONS];
        final boolean[] used = new boolean[MOST_OBSERVATIONS];
        long divisor;
        int height;
        int count;
        boolean made;

        boolean hasPart(int what) {
            return what >= 0 && what < PARTS;
        }

        boolean knows(int observation) {
            return observation >= 0 && observation < count;
        }

        /** Whether it could be made; the former one stays if not. */
        boolean makeBy(Observations all) {
            sums.addUp(all);
            if (sums.spread() <= 0) {
                return false;
            }
            takeParts();
            takeMisses(all);
            made = true;
            return true;
        }

        private void takeParts() {
            long spread = sums.spread();
            long cosine = sums.cosine();
            long sine = sums.sine();
            divisor = sums.n * spread;
            part[P] = sums.n * cosine;
            part[Q] = sums.n * sine;
            part[S] = sums.x * spread - cosine * sums.u + sine * sums.v;
            part[T] = sums.y * spread - sine * sums.u - cosine * sums.v;
            height = (int) dividedDown(sums.rises, sums.n);
        }

        private void takeMisses(Observations all) {
            count = all.count;
            for (int i = 0; i < count; i++) {
                int up = all.upLessPrism(i);
                miss[0][i] = all.x[i] - placeAlong(0, all.u[i], all.v[i], up);
                miss[1][i] = all.y[i] - placeAlong(1, all.u[i], all.v[i], up);
                miss[2][i] = all.z[i] - placeAlong(2, all.u[i], all.v[i], up);
                used[i] = all.used[i];
            }
        }

        int placeAlong(int axis, int u, int v, int w) {
            switch (axis) {
                case 0:
                    return (int) dividedDown(part[P] * u - part[Q] * v + part[S], divisor);
                case 1:
                    return (int) dividedDown(part[Q] * u + part[P] * v + part[T], divisor);
                default:
                    return w + height;
            }
        }

        /** Whole ones and the rest apart, as a part times a million would not fit a long. */
        long millionthsOf(int what) {
            long whole = dividedDown(part[what], divisor);
            long rest = part[what] - whole * divisor;
            return whole * MILLION + dividedDown(rest * MILLION, divisor);
        }

        /** The used one that misses by most along x and y, if its squares are above the bound. */
        int worstAbove(long bound) {
            long greatest = bound;
            int worst = NONE;
            for (int i = 0; i < count; i++) {
                long squares = squareOf(0, i) + squareOf(1, i);
                if (used[i] && squares > greatest) {
                    greatest = squares;
                    worst = i;
                }
            }
            return worst;
        }

        long sumOfSquares() {
            long squares = 0;
            for (int i = 0; i < count; i++) {
                if (used[i]) {
                    squares += squareOf(0, i) + squareOf(1, i) + squareOf(2, i);
                }
            }
            return squares;
        }

        private long squareOf(int axis, int observation) {
            long missed = miss[axis][observation];
            return missed * missed;
        }
    }

    /** Rows of levels, one behind the other. */
    private static final class Levels {
        final int[] difference = new int[MOST_LEVELS];
        final int[] length = new int[MOST_LEVELS];
        int count;

        boolean has(int row) {
            return row >= 0 && row < count;
        }

        boolean isFull() {
            return count >= MOST_LEVELS;
        }

        int add(int rowDifference, int rowLength) {
            difference[count] = rowDifference;
            length[count] = rowLength;
            count++;
            return count - 1;
        }

        int sumOfDifferences() {
            int all = 0;
            for (int i = 0; i < count; i++) {
                all += difference[i];
            }
            return all;
        }

        int closedDifference(int row) {
            long share = sharedOver(row + 1) - sharedOver(row);
            return (int) (difference[row] - share);
        }

        /** What is shared out over the first rows, so many of them. */
        private long sharedOver(int rows) {
            return dividedDown(sumOfDifferences() * lengthOf(rows), lengthOf(count));
        }

        private long lengthOf(int rows) {
            long all = 0;
            for (int i = 0; i < rows && i < count; i++) {
                all += length[i];
            }
            return all;
        }
    }

    /** A row of signs, and where it is being read. */
    private static final class Pad {
        static final int SIGNS_IN_AN_INT = 4;
        static final int BITS_OF_A_SIGN = 8;

        final char[] sign = new char[MOST_SIGNS];
        final int[] numbers = new int[NUMBERS_IN_A_ROW];
        int count;
        int at;

        static char signOf(int bits, int place) {
            return (char) ((bits >>> (place * BITS_OF_A_SIGN)) & 0xFF);
        }

        static int signsIn(int bits) {
            int n = 0;
            for (int i = 0; i < SIGNS_IN_AN_INT; i++) {
                n += signOf(bits, i) != 0 ? 1 : 0;
            }
            return n;
        }

        static boolean isGood(int bits) {
            for (int i = 0; i < SIGNS_IN_AN_INT; i++) {
                char c = signOf(bits, i);
                if (c != 0 && c != '-' && c != ' ' && c != ';' && !isDigit(c)) {
                    return false;
                }
            }
            return true;
        }

        static boolean isDigit(char c) {
            return c >= '0' && c <= '9';
        }

        void addSignsOf(int bits) {
            for (int i = 0; i < SIGNS_IN_AN_INT; i++) {
                char c = signOf(bits, i);
                if (c != 0 && count < MOST_SIGNS) {
                    sign[count] = c;
                    count++;
                }
            }
        }

        void rewind() {
            at = 0;
        }

        boolean isAtEnd() {
            return at >= count;
        }

        /** Reads a row into the numbers: whether its form is right. */
        boolean nextRow() {
            for (int i = 0; i < NUMBERS_IN_A_ROW; i++) {
                char behind = i < NUMBERS_IN_A_ROW - 1 ? ' ' : ';';
                if (!nextNumber(i) || !skips(behind)) {
                    return false;
                }
            }
            return true;
        }

        private boolean nextNumber(int i) {
            boolean below = skips('-');
            int number = 0;
            int digits = 0;
            while (digits < MOST_DIGITS && at < count && isDigit(sign[at])) {
                number = number * 10 + (sign[at] - '0');
                digits++;
                at++;
            }
            numbers[i] = below ? -number : number;
            return digits > 0;
        }

        private boolean skips(char c) {
            if (at < count && sign[at] == c) {
                at++;
                return true;
            }
            return false;
        }
    }
}
