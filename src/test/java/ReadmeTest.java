import java.io.IOException;
import java.io.UncheckedIOException;
import java.lang.reflect.InvocationTargetException;
import java.lang.reflect.Method;
import java.lang.reflect.Modifier;
import java.nio.file.DirectoryStream;
import java.nio.file.Files;
import java.nio.file.Path;
import java.util.List;
import java.util.Set;
import java.util.TreeSet;
import java.util.regex.Matcher;
import java.util.regex.Pattern;

/** The class answers what README.md says, and README.md names every call and every test. */
public final class ReadmeTest {
    private static final Path README = Path.of("README.md");
    private static final Path TESTS = Path.of("src/test/java");

    private static final String NEW_OBJECT = "AlikeStates x = new AlikeStates();";
    private static final Pattern CALL = Pattern.compile("x\\.(\\w+)\\(([-\\d, ]*)\\); +// ([^:]+)(:.*)?");
    private static final Pattern ROW_OF_CALL = Pattern.compile("\\| \\d+ \\| `(\\w+)\\(.*\\)` \\|.*");
    private static final Pattern ROW_OF_TEST = Pattern.compile("\\| `(\\w+Test)` \\|.*");

    private static final Checks checks = new Checks();

    private static AlikeStates x;
    private static final Set<String> called = new TreeSet<>();

    public static void main(String[] args) throws ReflectiveOperationException {
        List<String> lines = read();
        runExamples(lines);
        sameNames("calls in the table", namesIn(lines, ROW_OF_CALL), faceNames());
        sameNames("calls in the examples", called, faceNames());
        sameNames("tests", namesIn(lines, ROW_OF_TEST), testNames());
        checks.end();
    }

    private static List<String> read() {
        try {
            return Files.readAllLines(README);
        } catch (IOException e) {
            throw new UncheckedIOException(e);
        }
    }

    /** Every line of the blocks of Java is a new object, a call with its answer, or empty. */
    private static void runExamples(List<String> lines) throws ReflectiveOperationException {
        boolean inside = false;
        for (String line : lines) {
            if (line.startsWith("```")) {
                inside = line.equals("```java");
            } else if (inside && line.equals(NEW_OBJECT)) {
                x = new AlikeStates();
            } else if (inside && !line.isEmpty()) {
                runCall(line);
            }
        }
    }

    private static void runCall(String line) throws ReflectiveOperationException {
        Matcher call = CALL.matcher(line);
        if (!call.matches()) {
            checks.isTrue("no call with its answer: " + line, false);
            return;
        }
        called.add(call.group(1));
        String got = String.valueOf(answer(call.group(1), call.group(2)));
        String due = call.group(3).equals("NONE") ? String.valueOf(AlikeStates.NONE) : call.group(3);
        checks.isTrue(line + " answers " + got + ", which is said", got.equals(due));
    }

    private static Object answer(String name, String values) throws ReflectiveOperationException {
        String[] texts = values.isEmpty() ? new String[0] : values.split(", *");
        Object[] ints = new Object[texts.length];
        Class<?>[] types = new Class<?>[texts.length];
        for (int i = 0; i < texts.length; i++) {
            ints[i] = Integer.valueOf(texts[i]);
            types[i] = int.class;
        }
        try {
            return AlikeStates.class.getMethod(name, types).invoke(x, ints);
        } catch (InvocationTargetException e) {
            return e.getCause();
        }
    }

    private static Set<String> namesIn(List<String> lines, Pattern row) {
        Set<String> found = new TreeSet<>();
        for (String line : lines) {
            Matcher m = row.matcher(line);
            if (m.matches()) {
                found.add(m.group(1));
            }
        }
        return found;
    }

    private static Set<String> faceNames() {
        Set<String> found = new TreeSet<>();
        for (Method m : AlikeStates.class.getDeclaredMethods()) {
            if (Modifier.isPublic(m.getModifiers())) {
                found.add(m.getName());
            }
        }
        return found;
    }

    private static Set<String> testNames() {
        Set<String> found = new TreeSet<>();
        try (DirectoryStream<Path> files = Files.newDirectoryStream(TESTS, "*Test.java")) {
            for (Path file : files) {
                found.add(file.getFileName().toString().replace(".java", ""));
            }
        } catch (IOException e) {
            throw new UncheckedIOException(e);
        }
        return found;
    }

    private static void sameNames(String what, Set<String> got, Set<String> due) {
        checks.isTrue(what + " are " + got + ", due is " + due + ": this", got.equals(due));
    }
}
