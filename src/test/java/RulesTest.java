import java.io.IOException;
import java.lang.reflect.Constructor;
import java.lang.reflect.Field;
import java.lang.reflect.Method;
import java.lang.reflect.Modifier;
import java.nio.file.Files;
import java.nio.file.Path;
import java.util.Arrays;
import java.util.TreeSet;
import java.util.stream.Collectors;

/** The document's public face, and those rules of LANGUAGE.md that the file's text tells. */
public final class RulesTest {
    private static final String[] FACE = {
        "int instruction(int, int, int, int) IllegalArgumentException UnsupportedOperationException",
        "int start(int, int) IllegalArgumentException IndexOutOfBoundsException",
        "int set(int, int, int) IndexOutOfBoundsException",
        "int poke(int, int) IndexOutOfBoundsException",
        "int pick(int, int) IllegalArgumentException IndexOutOfBoundsException",
        "int run(int, int) IllegalArgumentException",
        "int register(int, int) IndexOutOfBoundsException",
        "int word(int) IndexOutOfBoundsException",
        "int seen(int, int) IndexOutOfBoundsException",
        "int told(int, int) IllegalArgumentException IndexOutOfBoundsException",
        "int records()",
        "int record(int, int) IllegalArgumentException IndexOutOfBoundsException",
        "void clear()",
    };
    private static final String[] RULED_OUT = {"->", "::", "import ", "package ", "assert ", "synchronized", "finally",
        "try ", "catch ", "System.exit", "System.currentTimeMillis", "System.nanoTime", "System.out", "Random",
        "Thread", "Exact(", "equals(", "hashCode", "toString", "@"};

    private static final Checks checks = new Checks();

    public static void main(String[] args) throws IOException {
        face();
        nested();
        text();
        checks.end("RulesTest");
    }

    private static void face() {
        Class<?> face = CoreTransactions.class;
        checks.due("the class is public and final", Modifier.PUBLIC | Modifier.FINAL, face.getModifiers());
        TreeSet<String> methods = new TreeSet<>();
        TreeSet<String> names = new TreeSet<>();
        for (Method method : face.getDeclaredMethods()) {
            if (!Modifier.isPrivate(method.getModifiers())) {
                methods.add(told(method));
                names.add(method.getName());
                checks.due(method + " is public alone", Modifier.PUBLIC, method.getModifiers());
            }
        }
        TreeSet<String> due = new TreeSet<>(Arrays.asList(FACE));
        checks.due("the methods " + methods + ", due are " + due, 1, methods.equals(due) ? 1 : 0);
        for (Method method : face.getDeclaredMethods()) {
            boolean ours = Modifier.isPrivate(method.getModifiers());
            checks.due(method + " bears a public name", 0, ours && names.contains(method.getName()) ? 1 : 0);
            checks.due(method + " has seven parameters at most", 1, method.getParameterCount() <= 7 ? 1 : 0);
        }
        checks.due("one constructor", 1, face.getDeclaredConstructors().length);
        for (Constructor<?> constructor : face.getDeclaredConstructors()) {
            checks.due("it is public", Modifier.PUBLIC, constructor.getModifiers());
            checks.due("it throws nothing", 0, constructor.getExceptionTypes().length);
        }
        for (Field field : face.getDeclaredFields()) {
            boolean isNone = field.getName().equals("NONE");
            int hidden = field.getModifiers() & Modifier.PRIVATE;
            checks.due(field + " is private, but for NONE", isNone ? 0 : Modifier.PRIVATE, hidden);
            boolean changes = Modifier.isStatic(field.getModifiers()) && !Modifier.isFinal(field.getModifiers());
            checks.due(field + " is no static state", 0, changes ? 1 : 0);
        }
    }

    private static String told(Method method) {
        String parameters = Arrays.stream(method.getParameterTypes()).map(Class::getSimpleName)
                .collect(Collectors.joining(", "));
        String thrown = Arrays.stream(method.getExceptionTypes()).map(type -> " " + type.getSimpleName()).sorted()
                .collect(Collectors.joining());
        return method.getReturnType().getSimpleName() + " " + method.getName() + "(" + parameters + ")" + thrown;
    }

    private static void nested() {
        Class<?>[] inside = CoreTransactions.class.getDeclaredClasses();
        checks.due("twelve classes at most", 1, inside.length < 12 ? 1 : 0);
        for (Class<?> one : inside) {
            boolean seen = Modifier.isPublic(one.getModifiers()) || Modifier.isProtected(one.getModifiers());
            checks.due(one + " is hidden and static", 1, !seen && Modifier.isStatic(one.getModifiers()) ? 1 : 0);
            for (Field field : one.getDeclaredFields()) {
                checks.due(field + " is no static state", 0, Modifier.isStatic(field.getModifiers()) ? 1 : 0);
            }
        }
    }

    private static void text() throws IOException {
        String text = Files.readString(Path.of("src/main/java/CoreTransactions.java"));
        for (String part : RULED_OUT) {
            checks.due("the text holds " + part, -1, text.indexOf(part));
        }
        checks.due("signs are 1 to 127", 1, text.chars().allMatch(sign -> sign >= 1 && sign <= 127) ? 1 : 0);
    }
}
