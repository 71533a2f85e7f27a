import java.io.IOException;
import java.lang.reflect.Method;
import java.nio.file.Files;
import java.nio.file.Path;
import java.util.ArrayList;
import java.util.Arrays;
import java.util.List;
import java.util.regex.Matcher;
import java.util.regex.Pattern;
import java.util.stream.Stream;

/** README.md: its example answers what stands there, and its tables name every call and every test. */
final class ReadmeTest {
    private static final Pattern EXAMPLE = Pattern.compile("(?s)```java\\n(.*?)```");
    private static final Pattern CALL = Pattern.compile("desk\\.(\\w+)\\((.*?)\\); +// (-?\\d+)(:.*)?");
    private static final Pattern CALL_ROW = Pattern.compile("(?m)^\\| `(\\w+)\\((.*?)\\)` \\|");
    private static final Pattern TEST_ROW = Pattern.compile("(?m)^\\| (\\w+Test) \\|");

    public static void main(String[] args) throws Exception {
        Due due = new Due();
        String text = Files.readString(Path.of("README.md"));
        theExample(due, text);
        theCalls(due, text);
        theTests(due, text);
        due.finish();
    }

    private static void theExample(Due due, String text) throws Exception {
        Matcher example = EXAMPLE.matcher(text);
        due.holds("there is an example", example.find());
        String[] lines = example.group(1).split("\n");
        due.same("the first line", lines[0], "CourierDesk desk = new CourierDesk();");
        CourierDesk desk = new CourierDesk();
        for (String line : Arrays.copyOfRange(lines, 1, lines.length)) {
            Matcher call = CALL.matcher(line);
            boolean told = call.matches();
            due.holds("a call with its answer: " + line, told || line.isEmpty());
            if (told) {
                due.is(line, answer(desk, call.group(1), call.group(2)), Long.parseLong(call.group(3)));
            }
        }
    }

    private static long answer(CourierDesk desk, String name, String given) throws Exception {
        Method method = methodOf(name);
        String[] texts = given.isEmpty() ? new String[0] : given.split(", ");
        Object[] values = new Object[texts.length];
        for (int i = 0; i < texts.length; i++) {
            values[i] = value(method.getParameterTypes()[i], texts[i]);
        }
        return ((Number) method.invoke(desk, values)).longValue();
    }

    private static Method methodOf(String name) {
        for (Method method : CourierDesk.class.getDeclaredMethods()) {
            if (method.getName().equals(name)) {
                return method;
            }
        }
        throw new IllegalArgumentException("README.md names a call that is not there: " + name);
    }

    private static Object value(Class<?> type, String text) {
        if (type == boolean.class) {
            return text.equals("true");
        }
        long number = Long.decode(text);
        return type == long.class ? (Object) number : (Object) (int) number;
    }

    /** Each call of the document's face stands once in the table, in the order and with the names that it has there. */
    private static void theCalls(Due due, String text) throws IOException {
        String document = Files.readString(Path.of("../shared/DOC.md"));
        List<String> want = new ArrayList<>();
        Matcher promised = Pattern.compile("(?m)^    public (?:int|long) (\\w+)\\((.*?)\\);").matcher(document);
        while (promised.find()) {
            want.add(promised.group(1) + "(" + promised.group(2).replaceAll("\\b(int|long|boolean) ", "") + ")");
        }
        List<String> got = new ArrayList<>();
        Matcher row = CALL_ROW.matcher(text);
        while (row.find()) {
            got.add(row.group(1) + "(" + row.group(2) + ")");
        }
        due.is("calls of the face", want.size(), 25);
        due.same("the table of calls", got.toString(), want.toString());
    }

    private static void theTests(Due due, String text) throws IOException {
        List<String> want;
        try (Stream<Path> files = Files.list(Path.of("src/test/java"))) {
            want = files.map(file -> file.getFileName().toString()).filter(name -> name.endsWith("Test.java"))
                    .map(name -> name.replace(".java", "")).sorted().toList();
        }
        List<String> got = TEST_ROW.matcher(text).results().map(row -> row.group(1)).sorted().toList();
        due.same("the tables of tests", got.toString(), want.toString());
    }
}
