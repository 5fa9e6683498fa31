import java.math.BigInteger;
import java.util.ArrayList;
import java.util.List;
import java.util.regex.Matcher;
import java.util.regex.Pattern;

/**
 * A slow model of the document, written apart from the program: the least sum of squares comes from
 * the normal equations, solved in fractions; texts are read by a pattern.
 */
final class Model {
    private static final Pattern ROW =
            Pattern.compile("(-?\\d{1,6}) (-?\\d{1,6}) (-?\\d{1,6}) (-?\\d{1,6});");

    private static final class Seen {
        final int[] mark;
        final int[] uvw;
        int prism;
        boolean used = true;

        Seen(int[] mark, int u, int v, int w) {
            this.mark = mark;
            this.uvw = new int[] {u, v, w};
        }

        int[] reduced() {
            return new int[] {uvw[0], uvw[1], uvw[2] - prism};
        }
    }

    private record Fraction(BigInteger over, BigInteger under) {
        static Fraction of(long over) {
            return new Fraction(BigInteger.valueOf(over), BigInteger.ONE);
        }

        static Fraction lowest(BigInteger over, BigInteger under) {
            BigInteger by = over.gcd(under);
            by = under.signum() < 0 ? by.negate() : by;
            return new Fraction(over.divide(by), under.divide(by));
        }

        Fraction plus(Fraction o) {
            return lowest(over.multiply(o.under).add(o.over.multiply(under)), under.multiply(o.under));
        }

        Fraction times(Fraction o) {
            return lowest(over.multiply(o.over), under.multiply(o.under));
        }

        Fraction times(long by) {
            return times(of(by));
        }

        Fraction minus(Fraction o) {
            return plus(o.times(-1));
        }

        Fraction dividedBy(Fraction o) {
            return lowest(over.multiply(o.under), under.multiply(o.over));
        }

        boolean isZero() {
            return over.signum() == 0;
        }

        long down() {
            BigInteger[] parts = over.divideAndRemainder(under);
            BigInteger whole = parts[1].signum() < 0 ? parts[0].subtract(BigInteger.ONE) : parts[0];
            return whole.longValueExact();
        }
    }

    private record Made(Fraction[] pqst, long height, List<long[]> misses, List<Boolean> used) {
    }

    private final List<int[]> marks = new ArrayList<>();
    private final List<Seen> seen = new ArrayList<>();
    private final List<int[]> points = new ArrayList<>();
    private final List<int[]> levels = new ArrayList<>();
    private String pad = "";
    private Made made;

    Object answer(String call, int[] a) {
        return switch (call) {
            case "mark" -> mark(a);
            case "observe" -> observe(a);
            case "prism" -> prism(a[0], a[1]);
            case "use" -> use(a[0], a[1] != 0);
            case "setUp" -> setUp();
            case "turned" -> turned(a[0]);
            case "residual" -> residual(a[0], a[1]);
            case "blunders" -> blunders(a[0]);
            case "sum" -> sum();
            case "point" -> point(a);
            case "place" -> place(a[0], a[1]);
            case "level" -> level(a);
            case "closed" -> closed(a[0]);
            case "open" -> open();
            case "unit" -> unit(a[0], a[1]);
            case "read" -> read();
            case "count" -> count(a[0]);
            default -> throw new AssertionError(call);
        };
    }

    private static void index(int i, int below) {
        if (i < 0 || i >= below) {
            throw new IndexOutOfBoundsException();
        }
    }

    private static void state(boolean good) {
        if (!good) {
            throw new IllegalStateException();
        }
    }

    private static void argument(int a, int least, int most) {
        if (a < least || a > most) {
            throw new IllegalArgumentException();
        }
    }

    private static void arguments(int... all) {
        for (int a : all) {
            argument(a, -10000, 10000);
        }
    }

    private int mark(int[] a) {
        state(marks.size() < 12);
        arguments(a);
        marks.add(a);
        return marks.size() - 1;
    }

    private int observe(int[] a) {
        index(a[0], marks.size());
        state(seen.size() < 20);
        arguments(a[1], a[2], a[3]);
        seen.add(new Seen(marks.get(a[0]), a[1], a[2], a[3]));
        return seen.size() - 1;
    }

    private int prism(int observation, int height) {
        index(observation, seen.size());
        argument(height, 0, 3000);
        int former = seen.get(observation).prism;
        seen.get(observation).prism = height;
        return former;
    }

    private boolean use(int observation, boolean on) {
        index(observation, seen.size());
        boolean former = seen.get(observation).used;
        seen.get(observation).used = on;
        return former != on;
    }

    private int used() {
        return (int) seen.stream().filter(s -> s.used).count();
    }

    private int setUp() {
        Made next = make();
        if (next == null) {
            return -1;
        }
        made = next;
        return used();
    }

    private Made make() {
        Fraction[][] equations = new Fraction[4][5];
        for (Fraction[] row : equations) {
            java.util.Arrays.fill(row, Fraction.of(0));
        }
        long rises = 0;
        for (Seen s : seen) {
            if (s.used) {
                addTo(equations, new long[] {s.uvw[0], -s.uvw[1], 1, 0, s.mark[0]});
                addTo(equations, new long[] {s.uvw[1], s.uvw[0], 0, 1, s.mark[1]});
                rises += s.mark[2] - (s.uvw[2] - s.prism);
            }
        }
        Fraction[] pqst = solved(equations);
        if (pqst == null) {
            return null;
        }
        long height = Fraction.of(rises).dividedBy(Fraction.of(used())).down();
        Made next = new Made(pqst, height, new ArrayList<>(), new ArrayList<>());
        for (Seen s : seen) {
            long[] place = placeBy(next, s.reduced());
            next.misses.add(new long[] {
                s.mark[0] - place[0], s.mark[1] - place[1], s.mark[2] - place[2]});
            next.used.add(s.used);
        }
        return next;
    }

    private static void addTo(Fraction[][] equations, long[] row) {
        for (int i = 0; i < 4; i++) {
            for (int j = 0; j < 5; j++) {
                equations[i][j] = equations[i][j].plus(Fraction.of(row[i] * row[j]));
            }
        }
    }

    private static Fraction[] solved(Fraction[][] m) {
        for (int column = 0; column < 4; column++) {
            int pivot = column;
            while (pivot < 4 && m[pivot][column].isZero()) {
                pivot++;
            }
            if (pivot == 4) {
                return null;
            }
            Fraction[] swapped = m[pivot];
            m[pivot] = m[column];
            m[column] = swapped;
            for (int row = 0; row < 4; row++) {
                if (row != column && !m[row][column].isZero()) {
                    Fraction by = m[row][column].dividedBy(m[column][column]);
                    for (int j = column; j < 5; j++) {
                        m[row][j] = m[row][j].minus(m[column][j].times(by));
                    }
                }
            }
        }
        Fraction[] answer = new Fraction[4];
        for (int i = 0; i < 4; i++) {
            answer[i] = m[i][4].dividedBy(m[i][i]);
        }
        return answer;
    }

    private static long[] placeBy(Made by, int[] uvw) {
        Fraction p = by.pqst[0];
        Fraction q = by.pqst[1];
        return new long[] {
            p.times(uvw[0]).minus(q.times(uvw[1])).plus(by.pqst[2]).down(),
            q.times(uvw[0]).plus(p.times(uvw[1])).plus(by.pqst[3]).down(),
            uvw[2] + by.height};
    }

    private long turned(int what) {
        index(what, 4);
        state(made != null);
        return made.pqst[what].times(1000000).down();
    }

    private long residual(int observation, int axis) {
        index(observation, seen.size());
        index(axis, 3);
        state(made != null);
        index(observation, made.misses.size());
        return made.misses.get(observation)[axis];
    }

    private int blunders(int limit) {
        argument(limit, 0, 100000);
        if (setUp() == -1) {
            return -1;
        }
        int left = 0;
        while (used() > 3) {
            int worst = -1;
            long most = (long) limit * limit;
            for (int i = seen.size() - 1; i >= 0; i--) {
                long[] miss = made.misses.get(i);
                long squares = miss[0] * miss[0] + miss[1] * miss[1];
                if (seen.get(i).used && (squares > most || squares == most && worst != -1)) {
                    worst = i;
                    most = squares;
                }
            }
            if (worst == -1) {
                break;
            }
            seen.get(worst).used = false;
            if (setUp() == -1) {
                seen.get(worst).used = true;
                break;
            }
            left++;
        }
        return left;
    }

    private long sum() {
        state(made != null);
        long all = 0;
        for (int i = 0; i < made.misses.size(); i++) {
            for (long miss : made.misses.get(i)) {
                all += made.used.get(i) ? miss * miss : 0;
            }
        }
        return all;
    }

    private int point(int[] a) {
        state(points.size() < 30);
        arguments(a);
        points.add(a);
        return points.size() - 1;
    }

    private long place(int point, int axis) {
        index(point, points.size());
        index(axis, 3);
        state(made != null);
        return placeBy(made, points.get(point))[axis];
    }

    private int level(int[] a) {
        state(levels.size() < 12);
        argument(a[0], -100000, 100000);
        argument(a[1], 1, 10000);
        levels.add(a);
        return levels.size() - 1;
    }

    private long closed(int row) {
        long m = levels.stream().mapToLong(r -> r[0]).sum();
        if (row == -1) {
            return m;
        }
        index(row, levels.size());
        long all = levels.stream().mapToLong(r -> r[1]).sum();
        long ahead = levels.stream().limit(row).mapToLong(r -> r[1]).sum();
        long upTo = ahead + levels.get(row)[1];
        long share = Fraction.of(m * upTo).dividedBy(Fraction.of(all)).down()
                - Fraction.of(m * ahead).dividedBy(Fraction.of(all)).down();
        return levels.get(row)[0] - share;
    }

    private int open() {
        int many = levels.size();
        levels.clear();
        return many;
    }

    private int unit(int a, int b) {
        String coming = "";
        for (int bits : new int[] {a, b}) {
            for (int i = 0; i < 4; i++) {
                int sign = Integer.remainderUnsigned(Integer.divideUnsigned(bits, 1 << 8 * i), 256);
                coming += sign == 0 ? "" : String.valueOf((char) sign);
            }
        }
        state((pad + coming).length() <= 200);
        if (!coming.matches("[-0-9 ;]*")) {
            throw new IllegalArgumentException();
        }
        pad += coming;
        return pad.length();
    }

    private int read() {
        String text = pad;
        pad = "";
        List<Seen> told = new ArrayList<>();
        Matcher row = ROW.matcher(text);
        int at = 0;
        while (at < text.length()) {
            Seen next = row.region(at, text.length()).lookingAt() ? toldBy(row, told.size()) : null;
            if (next == null) {
                return -1 - told.size();
            }
            told.add(next);
            at = row.end();
        }
        seen.addAll(told);
        return told.size();
    }

    private Seen toldBy(Matcher row, int ahead) {
        int[] a = new int[4];
        for (int i = 0; i < 4; i++) {
            a[i] = Integer.parseInt(row.group(i + 1));
        }
        boolean good = a[0] >= 0 && a[0] < marks.size() && seen.size() + ahead < 20;
        for (int i = 1; i < 4; i++) {
            good &= Math.abs(a[i]) <= 10000;
        }
        return good ? new Seen(marks.get(a[0]), a[1], a[2], a[3]) : null;
    }

    private int count(int what) {
        index(what, 6);
        int[] all = {marks.size(), seen.size(), used(), points.size(), levels.size(), pad.length()};
        return all[what];
    }
}
