import java.io.IOException;
import java.nio.file.Files;
import java.nio.file.Path;
import java.util.LinkedHashMap;
import java.util.Map;

/** Checks that belong to sentences of the document: each sentence must have some. */
final class Edge {
    interface Maker {
        StationRounds make();
    }

    interface Call {
        Object on(StationRounds x);
    }

    static final String INDEX = "throws.IndexOutOfBoundsException";
    static final String STATE = "throws.IllegalStateException";
    static final String ARGUMENT = "throws.IllegalArgumentException";
    static final int[] TOO_FAR = {-10001, 10001, Integer.MIN_VALUE, Integer.MAX_VALUE};
    private static final Path DOCUMENT = Path.of("../shared/DOC.md");

    private final Check check = new Check("EdgesTest");
    private final Map<String, Integer> checksOf = new LinkedHashMap<>();
    private String sentence = "";

    Edge() throws IOException {
        String section = "";
        for (String line : Files.readAllLines(DOCUMENT)) {
            if (line.startsWith("## ")) {
                section = line.substring(3).replaceAll(":.*", "");
            } else if (isTold(section)) {
                takeSentences(section, line.replaceAll("^`[^`]*`: ", ""));
            }
        }
    }

    /** The public face has a test of its own (FaceTest), and what is not promised has none. */
    private static boolean isTold(String section) {
        return section.equals("What it is") || section.equals("Terms") || section.startsWith("Promise");
    }

    private void takeSentences(String section, String paragraph) {
        // Two dots are a range, not an end.
        for (String words : paragraph.split("(?<=[^.]\\.)\\s+")) {
            if (!words.isBlank()) {
                checksOf.put(section + " | " + words, 0);
            }
        }
    }

    /** What follows is due by the one sentence of a section that begins with these words. */
    void sentence(String section, String beginning) {
        String head = section + " | " + beginning;
        long found = checksOf.keySet().stream().filter(s -> s.startsWith(head)).count();
        check.due("sentences that begin '" + head + "'", 1, () -> found);
        sentence = checksOf.keySet().stream().filter(s -> s.startsWith(head)).findFirst().orElse("");
    }

    void due(String what, Object want, Check.Call call) {
        checksOf.merge(sentence, 1, Integer::sum);
        check.due(sentence + " | " + what, want, call);
    }

    /** What is due of a call, and that nothing changes by it. */
    void idle(String what, Object want, Maker maker, Call call) {
        StationRounds told = maker.make();
        due(what, want, () -> call.on(told));
        due(what + ": changes what is told", "none",
                () -> Trace.difference(Trace.told(maker.make()), Trace.told(told)));
        StationRounds held = maker.make();
        Check.answerOf(() -> call.on(held));
        due(what + ": changes what is held", "none",
                () -> Trace.difference(Trace.held(maker.make()), Trace.held(held)));
    }

    void end() {
        checksOf.forEach((words, checks) ->
                check.due("the sentence has a test: " + words, true, () -> checks > 0));
        check.end();
    }
}
