import java.io.IOException;
import java.lang.reflect.Method;
import java.net.URL;
import java.net.URLClassLoader;
import java.nio.file.Files;
import java.nio.file.Path;
import java.util.ArrayList;
import java.util.Comparator;
import java.util.List;
import java.util.regex.Pattern;
import java.util.stream.Stream;
import javax.tools.ToolProvider;

/**
 * What an object answers after its 512th call is free, so no test may ask for it: all tests run once more, on a copy
 * of the program that counts the calls of each object.
 */
final class CallsTest {
    private static final Path PROGRAM = Path.of("src/main/java/CourierDesk.java");
    private static final Path TESTS = Path.of("src/test/java");
    private static final Pattern CONSTRUCTOR = Pattern.compile("(?m)^    public CourierDesk\\(\\)");
    private static final Pattern CALL = Pattern.compile("(?m)^    public (?:int|long) \\w+\\([^)]*\\) \\{$");

    public static void main(String[] args) throws Exception {
        Due due = new Due();
        Path folder = Files.createTempDirectory("calls");
        // A test that fails ends this program, too.
        Runtime.getRuntime().addShutdownHook(new Thread(() -> remove(folder)));
        compile(due, folder);
        runAll(due, folder);
        due.finish();
    }

    private static void compile(Due due, Path folder) throws IOException {
        Path copy = folder.resolve("CourierDesk.java");
        Files.writeString(copy, counting(due, Files.readString(PROGRAM)));
        List<String> given = new ArrayList<>(List.of("-encoding", "UTF-8", "-d", folder.toString(), copy.toString()));
        try (Stream<Path> files = Files.list(TESTS)) {
            files.map(Path::toString).filter(name -> name.endsWith(".java")).forEach(given::add);
        }
        int code = ToolProvider.getSystemJavaCompiler().run(null, null, null, given.toArray(new String[0]));
        due.is("compiling the copy", code, 0);
    }

    private static String counting(Due due, String program) {
        due.is("public constructors", CONSTRUCTOR.matcher(program).results().count(), 1);
        due.is("public calls", CALL.matcher(program).results().count(), 25);
        String withCounter = CONSTRUCTOR.matcher(program).replaceAll("    private int calls = 0;\n\n$0");
        return CALL.matcher(withCounter).replaceAll("$0\n        calls++;\n        Calls.tell(calls);");
    }

    private static void runAll(Due due, Path folder) throws Exception {
        try (URLClassLoader copies = new URLClassLoader(new URL[] {folder.toUri().toURL()},
                ClassLoader.getPlatformClassLoader())) {
            List<String> names;
            try (Stream<Path> files = Files.list(TESTS)) {
                names = files.map(file -> file.getFileName().toString()).filter(name -> name.endsWith("Test.java"))
                        .map(name -> name.replace(".java", "")).filter(name -> !name.equals("CallsTest")).toList();
            }
            for (String name : names) {
                int before = asked(copies, "beyond");
                method(copies, name, "main", String[].class).invoke(null, (Object) new String[0]);
                due.is("objects that " + name + " uses too long", asked(copies, "beyond") - before, 0);
            }
            due.holds("calls were told", asked(copies, "told") > 0);
        }
    }

    private static int asked(ClassLoader copies, String name) throws Exception {
        return (int) method(copies, "Calls", name).invoke(null);
    }

    private static Method method(ClassLoader copies, String type, String name, Class<?>... given) throws Exception {
        Method method = copies.loadClass(type).getDeclaredMethod(name, given);
        method.setAccessible(true);
        return method;
    }

    private static void remove(Path folder) {
        try (Stream<Path> files = Files.walk(folder)) {
            files.sorted(Comparator.reverseOrder()).forEach(file -> file.toFile().delete());
        } catch (IOException left) {
            System.out.println(folder + " is left: " + left);
        }
    }
}
