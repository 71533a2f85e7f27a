import java.io.IOException;
import java.lang.reflect.Constructor;
import java.lang.reflect.Field;
import java.lang.reflect.Method;
import java.lang.reflect.Modifier;
import java.nio.file.Files;
import java.nio.file.Path;
import java.util.Arrays;
import java.util.Set;
import java.util.TreeSet;
import java.util.regex.Matcher;
import java.util.regex.Pattern;

/** The public face of the document, and those rules of LANGUAGE.md that can be seen from outside. */
final class FaceTest {
    private static final String[] FACE = {
        "int feed(int, int, int, int, int)", "int end(int)", "int write(boolean, boolean)", "int read(boolean)",
        "long check(int, int)", "int words(int, int, int, boolean)", "int word(int)", "int octet(int)",
        "long seed(long)", "long draw()", "int push(int)", "long pop(boolean)", "int search(int)",
        "int insert(int, int)", "long remove(int)", "long set(int, int)", "long get(int)",
        "int find(int, int, boolean)", "int size(int)", "int turn(int, int)", "int swap(int, int)",
        "long tell(int, int)", "int replace(int, int)", "int seek(int)", "int count(int)"};

    private static final String[] RULED_OUT = {"\\bthrow\\b", "\\btry\\b", "\\bcatch\\b", "\\bsynchronized\\b",
        "\\bassert\\b", "->", "::", "\\bpackage\\b", "\\bvar\\b", "\\bString\\.format\\b", "[^\\x00-\\x7f]"};

    private static final String LISTED = "System\\.arraycopy|Arrays\\.(copyOf|copyOfRange|fill)"
            + "|(Math|Integer|Long)\\.(?!\\w*Exact$|random$)\\w+";

    public static void main(String[] args) throws IOException {
        Due due = new Due();
        theClass(due);
        theMethods(due);
        theFields(due);
        theClassesInside(due);
        theText(due);
        due.finish();
    }

    private static void theClass(Due due) {
        int modifiers = CourierDesk.class.getModifiers();
        due.holds("the class is public and final", Modifier.isPublic(modifiers) && Modifier.isFinal(modifiers));
        Constructor<?>[] constructors = CourierDesk.class.getDeclaredConstructors();
        due.is("constructors", constructors.length, 1);
        due.holds("it is public, without parameters",
                Modifier.isPublic(constructors[0].getModifiers()) && constructors[0].getParameterCount() == 0);
    }

    private static String signature(Method method) {
        String parameters = Arrays.toString(method.getParameterTypes());
        return method.getReturnType() + " " + method.getName() + "("
                + parameters.substring(1, parameters.length() - 1) + ")";
    }

    private static void theMethods(Due due) {
        Set<String> seen = new TreeSet<>();
        Set<String> publicNames = new TreeSet<>();
        Set<String> privateNames = new TreeSet<>();
        for (Method method : CourierDesk.class.getDeclaredMethods()) {
            if (Modifier.isPrivate(method.getModifiers())) {
                privateNames.add(method.getName());
            } else {
                due.holds(method + " is public", Modifier.isPublic(method.getModifiers()));
                due.holds(method + " is of an object", !Modifier.isStatic(method.getModifiers()));
                seen.add(signature(method));
                publicNames.add(method.getName());
            }
        }
        due.holds("the public methods are those of the face: " + seen, seen.equals(new TreeSet<>(Arrays.asList(FACE))));
        privateNames.retainAll(publicNames);
        due.holds("no private method bears a public name: " + privateNames, privateNames.isEmpty());
    }

    private static void theFields(Due due) {
        Set<String> open = new TreeSet<>();
        for (Field field : CourierDesk.class.getDeclaredFields()) {
            if (!Modifier.isPrivate(field.getModifiers())) {
                open.add(Modifier.toString(field.getModifiers()) + " " + field.getType() + " " + field.getName());
            }
        }
        due.holds("the open fields are the constants: " + open, open.equals(new TreeSet<>(Arrays.asList(
                "public static final int REFUSED", "public static final int FULL"))));
    }

    private static void theClassesInside(Due due) {
        Class<?>[] inside = CourierDesk.class.getDeclaredClasses();
        due.holds("at most twelve classes", inside.length < 12);
        for (Class<?> one : inside) {
            due.holds(one + " is static", Modifier.isStatic(one.getModifiers()));
            due.holds(one + " is not public", (one.getModifiers() & (Modifier.PUBLIC | Modifier.PROTECTED)) == 0);
            keepsToTheLimits(due, one);
        }
        keepsToTheLimits(due, CourierDesk.class);
    }

    private static void keepsToTheLimits(Due due, Class<?> one) {
        staticFieldsAreFinal(due, one);
        for (Method method : one.getDeclaredMethods()) {
            due.holds(method + " takes at most seven parameters", method.getParameterCount() <= 7);
        }
        long fields = Arrays.stream(one.getDeclaredFields()).filter(f -> !Modifier.isStatic(f.getModifiers())).count();
        due.holds(one + " has at most twenty fields beside its constants", fields <= 20);
    }

    private static void staticFieldsAreFinal(Due due, Class<?> one) {
        for (Field field : one.getDeclaredFields()) {
            int modifiers = field.getModifiers();
            due.holds(field + " is final if static", !Modifier.isStatic(modifiers) || Modifier.isFinal(modifiers));
        }
    }

    private static void theText(Due due) throws IOException {
        String text = Files.readString(Path.of("src/main/java/CourierDesk.java"))
                .replaceAll("(?s)/\\*.*?\\*/", "").replaceAll("//[^\\n]*", "");
        for (String ruledOut : RULED_OUT) {
            due.holds("the program is without " + ruledOut, !Pattern.compile(ruledOut).matcher(text).find());
        }
        for (String line : text.split("\\n")) {
            boolean asListed = line.matches("import java\\.util\\.(Arrays|ArrayList|List|Iterator);\\s*");
            due.holds("a listed import: " + line, !line.startsWith("import") || asListed);
        }
        Matcher library = Pattern.compile("\\b(System|Arrays|Math|Integer|Long)\\.(\\w+)").matcher(text);
        while (library.find()) {
            due.holds("listed in the library: " + library.group(), library.group().matches(LISTED));
        }
    }
}
