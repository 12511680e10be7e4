import java.io.IOException;
import java.lang.reflect.Field;
import java.lang.reflect.Method;
import java.lang.reflect.Modifier;
import java.nio.file.Files;
import java.nio.file.Path;
import java.util.ArrayList;
import java.util.List;

/** README.md says how to use the class: its example is true, and no call or constant is left out. */
final class ReadmeTest {
    private static final Check C = new Check();
    private static final String ANSWER = "// ";
    /** The rows of the example that no call of this test has been held against yet. */
    private static final List<String> ROWS = new ArrayList<>();

    private static void readExample(String readme) {
        int start = readme.indexOf("```java") + "```java".length();
        int end = readme.indexOf("```", start);
        for (String row : readme.substring(start, end).split("\n")) {
            if (!row.isBlank()) {
                ROWS.add(row);
            }
        }
    }

    /** Holds the next row of the example against a call and what it answered. */
    private static void row(String call, Object got) {
        String row = ROWS.isEmpty() ? "" : ROWS.remove(0);
        C.due("the row '" + row + "' is for " + call, row.startsWith(call + ";"), true);
        String told = row.substring(row.indexOf(ANSWER) + ANSWER.length());
        C.due("README tells for " + call + ": " + told + "; it answered " + got, told.startsWith(got + ":"), true);
    }

    private static String named(int answer) {
        return answer == NodeLogFlash.CUT ? "CUT" : answer == NodeLogFlash.OFF ? "OFF" : Integer.toString(answer);
    }

    private static void example() {
        NodeLogFlash x = new NodeLogFlash();
        C.due("the first row", ROWS.remove(0).startsWith("NodeLogFlash x = new NodeLogFlash();"), true);
        row("x.mount()", x.mount());
        int dir = x.make(1, 1, true);
        row("int dir = x.make(1, 1, true)", dir);
        int file = x.make(dir, 3, false);
        row("int file = x.make(dir, 3, false)", file);
        row("x.write(file, 0, 4, 100)", x.write(file, 0, 4, 100));
        row("x.read(file, 2)", x.read(file, 2));
        row("x.move(dir, 3, 1, 2)", x.move(dir, 3, 1, 2));
        row("x.arm(4)", x.arm(4));
        row("x.write(file, 0, 6, 7)", named(x.write(file, 0, 6, 7)));
        row("x.size(file)", named(x.size(file)));
        row("x.mount()", x.mount());
        row("x.read(file, 2)", x.read(file, 2));
        row("x.collect()", x.collect());
        C.due("rows of the example that were not tried", ROWS.size(), 0);
    }

    private static void face(String readme) {
        for (Method method : NodeLogFlash.class.getDeclaredMethods()) {
            if (Modifier.isPublic(method.getModifiers())) {
                C.due("README names " + method.getName(), readme.contains("`" + method.getName() + "("), true);
            }
        }
        for (Field field : NodeLogFlash.class.getDeclaredFields()) {
            if (Modifier.isPublic(field.getModifiers())) {
                C.due("README names " + field.getName(), readme.contains("`" + field.getName() + "`"), true);
            }
        }
        C.due("README says how to run the tests", readme.contains(".ci/run"), true);
    }

    public static void main(String[] args) throws IOException {
        String readme = Files.readString(Path.of("README.md"));
        readExample(readme);
        example();
        face(readme);
        C.end();
    }
}
