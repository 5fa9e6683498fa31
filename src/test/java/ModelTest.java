import java.util.Arrays;
import java.util.Random;

/** Plays runs of calls on the program and on the model; every answer must be the same. */
public final class ModelTest {
    private static final int RUNS = 400;
    private static final int CALLS = 512;
    private static final String[] NAMES = {
        "mark", "observe", "prism", "use", "setUp", "turned", "residual", "blunders", "sum", "point",
        "place", "level", "closed", "open", "unit", "read", "count",
    };
    private static final int[] WEIGHTS = {6, 8, 3, 6, 4, 8, 14, 3, 4, 4, 10, 5, 8, 1, 3, 3, 6};
    private static final int[] STRANGE = {
        Integer.MIN_VALUE, Integer.MAX_VALUE, -1, 10001, -10001, 3001, 100001, -100001, 12, 20, 30,
    };

    private final Random random;
    private final int reach;
    private final boolean crowded;
    private String typed = "";

    private ModelTest(int run) {
        random = new Random(20261115L + run);
        int[] reaches = {1, 3, 50, 1000, 9000, 10000};
        reach = reaches[run % reaches.length];
        crowded = run / reaches.length % 2 == 1;
    }

    public static void main(String[] args) {
        Check check = new Check("ModelTest");
        for (int run = 0; run < RUNS; run++) {
            new ModelTest(run).play(run, check);
        }
        check.end();
    }

    private void play(int run, Check check) {
        StationRounds program = new StationRounds();
        Model model = new Model();
        for (int i = 0; i < CALLS; i++) {
            String call = nextCall();
            int[] a = argumentsOf(call);
            String want = Check.answerOf(() -> model.answer(call, a.clone()));
            check.due("run " + run + ", call " + i + ": " + call + Arrays.toString(a), want,
                    () -> answer(program, call, a));
        }
    }

    private static Object answer(StationRounds x, String call, int[] a) {
        return switch (call) {
            case "mark" -> x.mark(a[0], a[1], a[2]);
            case "observe" -> x.observe(a[0], a[1], a[2], a[3]);
            case "prism" -> x.prism(a[0], a[1]);
            case "use" -> x.use(a[0], a[1] != 0);
            case "setUp" -> x.setUp();
            case "turned" -> x.turned(a[0]);
            case "residual" -> x.residual(a[0], a[1]);
            case "blunders" -> x.blunders(a[0]);
            case "sum" -> x.sum();
            case "point" -> x.point(a[0], a[1], a[2]);
            case "place" -> x.place(a[0], a[1]);
            case "level" -> x.level(a[0], a[1]);
            case "closed" -> x.closed(a[0]);
            case "open" -> x.open();
            case "unit" -> x.unit(a[0], a[1]);
            case "read" -> x.read();
            case "count" -> x.count(a[0]);
            default -> throw new AssertionError(call);
        };
    }

    private String nextCall() {
        // A text that was begun is written to its end, or else few rows would ever be good.
        if (!typed.isEmpty() && random.nextInt(8) != 0) {
            return "unit";
        }
        int at = random.nextInt(Arrays.stream(WEIGHTS).sum());
        for (int i = 0; i < NAMES.length; i++) {
            at -= WEIGHTS[i];
            if (at < 0) {
                return NAMES[i];
            }
        }
        throw new AssertionError();
    }

    private int[] argumentsOf(String call) {
        int[] a = switch (call) {
            case "mark", "point" -> new int[] {coordinate(), coordinate(), coordinate()};
            case "observe" -> observed();
            case "prism" -> new int[] {below(21), random.nextInt(4) == 0 ? 3000 : below(3001)};
            case "use" -> new int[] {below(21), random.nextInt(2)};
            case "turned" -> new int[] {below(4)};
            case "residual" -> new int[] {below(21), below(3)};
            case "blunders" -> new int[] {below(random.nextBoolean() ? 20 : reach * 2)};
            case "place" -> new int[] {below(31), below(3)};
            case "level" -> new int[] {below(200001) - 100000, 1 + below(random.nextBoolean() ? 9 : 10000)};
            case "closed" -> new int[] {below(13) - 1};
            case "unit" -> typedNext();
            case "count" -> new int[] {below(6)};
            default -> new int[0];
        };
        if (a.length > 0 && random.nextInt(40) == 0) {
            a[random.nextInt(a.length)] = STRANGE[random.nextInt(STRANGE.length)];
        }
        return a;
    }

    private int below(int bound) {
        return random.nextInt(bound);
    }

    private int coordinate() {
        int kind = random.nextInt(6);
        if (kind == 0) {
            return random.nextBoolean() ? reach : -reach;
        }
        return below(2 * reach + 1) - reach;
    }

    /** In some runs most observations lie in one small spot, so that p, q, s and t grow large. */
    private int[] observed() {
        int[] a = {below(12), coordinate(), coordinate(), coordinate()};
        if (crowded) {
            a[1] = 10000 - below(2);
            a[2] = below(2) - 10000;
        }
        return a;
    }

    private int[] typedNext() {
        if (typed.isEmpty()) {
            int rows = 1 + below(5);
            for (int i = 0; i < rows; i++) {
                typed += row();
            }
        }
        int[] a = new int[2];
        int many = Math.min(typed.length(), 8);
        for (int i = 0; i < many; i++) {
            a[i / 4] |= typed.charAt(i) << i % 4 * 8;
        }
        typed = typed.substring(many);
        return a;
    }

    private String row() {
        StringBuilder text = new StringBuilder();
        int[] a = observed();
        a[0] = below(4);
        for (int i = 0; i < 4; i++) {
            text.append(random.nextInt(9) == 0 ? String.format("%06d", a[i]) : String.valueOf(a[i]));
            text.append(i < 3 ? ' ' : ';');
        }
        if (random.nextInt(20) == 0) {
            text.setCharAt(below(text.length()), "0123456789- ;".charAt(below(13)));
        }
        return text.toString();
    }
}
