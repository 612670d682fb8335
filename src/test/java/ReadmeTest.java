import java.io.File;
import java.io.IOException;
import java.lang.reflect.Method;
import java.lang.reflect.Modifier;
import java.nio.file.Files;
import java.nio.file.Path;
import java.util.List;
import java.util.Set;
import java.util.TreeSet;
import java.util.regex.Matcher;
import java.util.regex.Pattern;

/** What README.md says of how to use the class and of its tests is so; runs where README.md stands. */
public final class ReadmeTest {
    private static final String MAKES_BOOK = "NeighborBook book = new NeighborBook();";
    private static final Pattern CALL = Pattern.compile("book\\.(\\w+)\\(([^)]*)\\);\\s+// (-?\\d+): .+");
    private static final Pattern CALL_ROW = Pattern.compile("\\| `(\\w+)\\(([^)]*)\\)` \\|.+");
    private static final Pattern TEST_ROW = Pattern.compile("\\| `(\\w+Test)` \\|.+");
    private static final Due due = new Due();

    private ReadmeTest() {
    }

    public static void main(String[] args) throws IOException, ReflectiveOperationException {
        List<String> lines = Files.readAllLines(Path.of("README.md"));
        example(lines);
        calls(lines);
        tests(lines);
        due.end();
    }

    private static void example(List<String> lines) throws ReflectiveOperationException {
        due.begin("the example");
        int from = lines.indexOf("```java") + 1;
        due.holds("it begins with a new object", from > 0 && lines.get(from).equals(MAKES_BOOK));
        NeighborBook book = new NeighborBook();
        for (int i = from + 1; i < lines.size() && !lines.get(i).equals("```"); i++) {
            String line = lines.get(i);
            if (!line.isEmpty() && !line.startsWith("// ")) {
                call(book, line);
            }
        }
    }

    private static void call(NeighborBook book, String line) throws ReflectiveOperationException {
        Matcher parts = CALL.matcher(line);
        due.holds("a call and its answer: " + line, parts.matches());
        if (!parts.matches()) {
            return;
        }
        Method method = publicCall(parts.group(1));
        due.holds("there is the call " + parts.group(1), method != null);
        if (method != null) {
            Object[] given = given(method, parts.group(2));
            due.is(line, (Integer) method.invoke(book, given), Long.parseLong(parts.group(3)));
        }
    }

    private static Method publicCall(String name) {
        for (Method method : NeighborBook.class.getDeclaredMethods()) {
            if (method.getName().equals(name) && Modifier.isPublic(method.getModifiers())) {
                return method;
            }
        }
        return null;
    }

    private static Object[] given(Method method, String text) {
        Class<?>[] kinds = method.getParameterTypes();
        Object[] given = new Object[kinds.length];
        String[] numbers = text.split(", ");
        for (int i = 0; i < kinds.length; i++) {
            String number = numbers[i];
            long value = number.equals("NeighborBook.NONE") ? NeighborBook.NONE
                    : Long.decode(number.endsWith("L") ? number.substring(0, number.length() - 1) : number);
            if (kinds[i] == long.class) {
                given[i] = value;
            } else {
                given[i] = (int) value;
            }
        }
        return given;
    }

    private static void calls(List<String> lines) {
        due.begin("the calls");
        Set<String> want = new TreeSet<>();
        for (Method method : NeighborBook.class.getDeclaredMethods()) {
            if (Modifier.isPublic(method.getModifiers())) {
                want.add(method.getName() + " of " + method.getParameterCount());
            }
        }
        Set<String> seen = new TreeSet<>();
        for (String line : lines) {
            Matcher row = CALL_ROW.matcher(line);
            if (row.matches()) {
                seen.add(row.group(1) + " of " + (row.group(2).isEmpty() ? 0 : row.group(2).split(", ").length));
            }
        }
        due.holds("each call has a row: " + seen, seen.equals(want));
    }

    private static void tests(List<String> lines) {
        due.begin("the tests");
        Set<String> want = new TreeSet<>();
        String[] files = new File("src/test/java").list();
        due.holds("src/test/java is there", files != null);
        for (String file : files == null ? new String[0] : files) {
            if (file.endsWith("Test.java")) {
                want.add(file.substring(0, file.length() - ".java".length()));
            }
        }
        Set<String> seen = new TreeSet<>();
        for (String line : lines) {
            Matcher row = TEST_ROW.matcher(line);
            if (row.matches()) {
                seen.add(row.group(1));
            }
        }
        due.holds("each test has a row: " + seen, seen.equals(want));
        due.holds("the script that runs them can be run", Files.isExecutable(Path.of(".ci/run")));
        due.holds("and is named", lines.contains("    .ci/run"));
    }
}
