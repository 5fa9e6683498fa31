import java.io.IOException;
import java.lang.reflect.Field;
import java.lang.reflect.Method;
import java.lang.reflect.Modifier;
import java.nio.file.Files;
import java.nio.file.Path;
import java.util.Arrays;
import java.util.LinkedHashSet;
import java.util.Set;
import java.util.TreeSet;
import java.util.regex.Matcher;
import java.util.regex.Pattern;

/** The public face is the document's, word for word, and nothing else can be seen of the class. */
public final class FaceTest {
    private static final Path DOCUMENT = Path.of("../shared/DOC.md");
    private static final Path PROGRAM = Path.of("src/main/java/StationRounds.java");
    private static final Check CHECK = new Check("FaceTest");

    public static void main(String[] args) throws IOException {
        faceIsTheDocuments();
        nothingElseCanBeSeen();
        privateNamesDiffer();
        classesStaySmall();
        libraryIsTheListed();
        machineExceptionsAreNotCaught();
        CHECK.end();
    }

    private static void faceIsTheDocuments() throws IOException {
        Set<String> want = publicHeads(Files.readString(DOCUMENT), "(public [^;{]*)[;{]");
        Set<String> got = publicHeads(Files.readString(PROGRAM), "(public [^;{]*)[;{]");
        CHECK.due("the public heads", want, () -> got);
        CHECK.due("how many of them", 20, () -> got.size());
    }

    private static Set<String> publicHeads(String text, String pattern) {
        Set<String> heads = new TreeSet<>();
        Matcher head = Pattern.compile("(?m)^ *" + pattern).matcher(text);
        while (head.find()) {
            heads.add(head.group(1).replaceAll("\\s+", " ").trim());
        }
        return heads;
    }

    private static void nothingElseCanBeSeen() {
        for (Field field : StationRounds.class.getDeclaredFields()) {
            int kind = field.getModifiers();
            CHECK.due("the field " + field.getName() + " may be seen", true,
                    () -> Modifier.isPrivate(kind) || field.getName().equals("NONE"));
            CHECK.due("the field " + field.getName() + " is final", true, () -> Modifier.isFinal(kind));
        }
        for (Method method : StationRounds.class.getDeclaredMethods()) {
            int kind = method.getModifiers();
            CHECK.due("the method " + method.getName() + " is public or private", true,
                    () -> Modifier.isPublic(kind) || Modifier.isPrivate(kind));
        }
        for (Class<?> inside : StationRounds.class.getDeclaredClasses()) {
            CHECK.due("the class " + inside.getName() + " is static", true,
                    () -> Modifier.isStatic(inside.getModifiers()));
            CHECK.due("the class " + inside.getName() + " has some twenty fields at most", true,
                    () -> inside.getDeclaredFields().length <= 20);
        }
        CHECK.due("the class is final", true, () -> Modifier.isFinal(StationRounds.class.getModifiers()));
    }

    private static void privateNamesDiffer() {
        Set<String> open = new TreeSet<>();
        for (Method method : StationRounds.class.getMethods()) {
            open.add(method.getName());
        }
        for (Class<?> inside : StationRounds.class.getDeclaredClasses()) {
            for (Method method : inside.getDeclaredMethods()) {
                CHECK.due(inside.getName() + "." + method.getName() + " bears a public name", false,
                        () -> open.contains(method.getName()));
            }
        }
        for (Method method : StationRounds.class.getDeclaredMethods()) {
            CHECK.due(method.getName() + " bears a public name, but is private", false,
                    () -> Modifier.isPrivate(method.getModifiers()) && open.contains(method.getName()));
        }
    }

    /** Rules 5 and 11 of LANGUAGE.md. */
    private static void classesStaySmall() {
        Set<Class<?>> all = new LinkedHashSet<>(Arrays.asList(StationRounds.class.getDeclaredClasses()));
        all.add(StationRounds.class);
        CHECK.due("some twelve classes at most", true, () -> all.size() <= 12);
        for (Class<?> one : all) {
            for (Method method : one.getDeclaredMethods()) {
                CHECK.due(one.getName() + "." + method.getName() + " takes seven parameters at most", true,
                        () -> method.getParameterCount() <= 7);
            }
            for (Field field : one.getDeclaredFields()) {
                int kind = field.getModifiers();
                CHECK.due(one.getName() + "." + field.getName() + ", if static, is a constant", true,
                        () -> !Modifier.isStatic(kind) || Modifier.isFinal(kind) && field.getType().isPrimitive());
            }
        }
    }

    /** Rule 4 of LANGUAGE.md: of the library the program calls functions of Math alone, and these. */
    private static void libraryIsTheListed() throws IOException {
        Set<String> called = new TreeSet<>();
        Matcher call = Pattern.compile("\\b(?:Math|Integer|Long|System|Arrays|List)\\.\\w+")
                .matcher(Files.readString(PROGRAM));
        while (call.find()) {
            called.add(call.group());
        }
        CHECK.due("the library's functions", "[Math.floorDiv, Math.max]", () -> called);
    }

    private static void machineExceptionsAreNotCaught() throws IOException {
        String text = Files.readString(PROGRAM);
        for (String word : Arrays.asList("catch", "finally", "import ", "synchronized", "assert ", "->", "::")) {
            CHECK.due("the program holds '" + word + "'", false, () -> text.contains(word));
        }
    }
}
