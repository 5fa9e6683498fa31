import java.io.IOException;
import java.lang.reflect.InvocationTargetException;
import java.lang.reflect.Method;
import java.lang.reflect.Modifier;
import java.nio.file.Files;
import java.nio.file.Path;
import java.util.ArrayList;
import java.util.List;
import java.util.Set;
import java.util.TreeSet;
import java.util.regex.Matcher;
import java.util.regex.Pattern;

/** The answers of README.md's example are right, and its list of calls is the public face. */
public final class ReadmeTest {
    private static final Path README = Path.of("README.md");
    private static final String OBJECT_IS_MADE = "StationRounds rounds = new StationRounds();";
    private static final Pattern CALL =
            Pattern.compile("(rounds|new StationRounds\\(\\))\\.(\\w+)\\(([^)]*)\\);\\s*// ([^:]*)(:.*)?");
    private static final Pattern ROW = Pattern.compile("\\| `(\\w+)\\(([^)]*)\\)` \\|[^|]*\\|([^|]*)\\|");
    private static final Check CHECK = new Check("ReadmeTest");

    public static void main(String[] args) throws IOException {
        String text = Files.readString(README);
        answersOfTheExample(text);
        callsOfTheList(text);
        CHECK.due("it tells how the tests are run", true, () -> text.contains("\n    .ci/run\n"));
        CHECK.end();
    }

    private static Set<String> namesOfTheFace() {
        Set<String> names = new TreeSet<>();
        for (Method method : StationRounds.class.getDeclaredMethods()) {
            if (Modifier.isPublic(method.getModifiers())) {
                names.add(method.getName());
            }
        }
        return names;
    }

    private static Method methodOf(String name) {
        for (Method method : StationRounds.class.getDeclaredMethods()) {
            if (Modifier.isPublic(method.getModifiers()) && method.getName().equals(name)) {
                return method;
            }
        }
        throw new IllegalArgumentException("README.md tells of " + name + ", which is no public method");
    }

    private static void answersOfTheExample(String text) {
        StationRounds rounds = new StationRounds();
        Set<String> called = new TreeSet<>();
        for (String line : exampleOf(text)) {
            Matcher call = CALL.matcher(line);
            if (call.matches()) {
                called.add(call.group(2));
                StationRounds on = call.group(1).equals("rounds") ? rounds : new StationRounds();
                CHECK.due(line, call.group(4), () -> answerOf(on, call.group(2), call.group(3)));
            } else {
                CHECK.due("no call: " + line, true,
                        () -> line.isBlank() || line.startsWith("// ") || line.equals(OBJECT_IS_MADE));
            }
        }
        CHECK.due("the example makes every call", namesOfTheFace(), () -> called);
    }

    private static List<String> exampleOf(String text) {
        List<String> lines = new ArrayList<>();
        boolean inside = false;
        for (String line : text.split("\n")) {
            if (line.startsWith("```")) {
                inside = line.equals("```java");
            } else if (inside) {
                lines.add(line);
            }
        }
        return lines;
    }

    private static String answerOf(StationRounds on, String name, String arguments) {
        try {
            return String.valueOf(methodOf(name).invoke(on, valuesOf(arguments)));
        } catch (InvocationTargetException e) {
            return "throws " + e.getCause().getClass().getSimpleName();
        } catch (IllegalAccessException e) {
            return "can't be called";
        }
    }

    private static Object[] valuesOf(String arguments) {
        List<Object> values = new ArrayList<>();
        for (String argument : arguments.split(",\\s*")) {
            if (argument.equals("true") || argument.equals("false")) {
                values.add(Boolean.valueOf(argument));
            } else if (!argument.isEmpty()) {
                values.add(Integer.decode(argument));
            }
        }
        return values.toArray();
    }

    private static void callsOfTheList(String text) {
        Set<String> listed = new TreeSet<>();
        Matcher row = ROW.matcher(text);
        while (row.find()) {
            String name = row.group(1);
            int parameters = row.group(2).isEmpty() ? 0 : row.group(2).split(",").length;
            String thrown = row.group(3);
            listed.add(name);
            CHECK.due("the parameters of " + name, methodOf(name).getParameterCount(), () -> parameters);
            CHECK.due("what " + name + " throws", exceptionsOf(methodOf(name)), () -> exceptionsOf(thrown));
        }
        CHECK.due("every call is listed", namesOfTheFace(), () -> listed);
    }

    private static Set<String> exceptionsOf(Method method) {
        Set<String> names = new TreeSet<>();
        for (Class<?> thrown : method.getExceptionTypes()) {
            names.add(thrown.getSimpleName());
        }
        return names;
    }

    private static Set<String> exceptionsOf(String words) {
        Set<String> names = new TreeSet<>();
        if (words.contains("Index")) {
            names.add("IndexOutOfBoundsException");
        }
        if (words.contains("State")) {
            names.add("IllegalStateException");
        }
        if (words.contains("Argument")) {
            names.add("IllegalArgumentException");
        }
        return names;
    }
}
