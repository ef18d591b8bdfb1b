import java.io.IOException;
import java.lang.reflect.Method;
import java.lang.reflect.Modifier;
import java.nio.file.Files;
import java.nio.file.Path;
import java.util.List;
import java.util.regex.Matcher;
import java.util.regex.Pattern;

/** README.md's example answers what its comments tell, and its tables name all that there is. */
public final class ReadmeTest {
    private static final Pattern MADE = Pattern.compile("CoreTransactions x = new CoreTransactions\\((.*)\\);.*");
    private static final Pattern CALLED = Pattern.compile("x\\.(\\w+)\\((.*)\\); *// (-?\\d+)\\b.*");
    private static final String[] OPERATIONS = {"SET", "ADD", "SUB", "MUL", "MORE", "LOAD", "STORE", "LESS", "OTHER",
        "JUMP", "BEGIN", "END", "ABORT", "HALT"};

    private static final Checks checks = new Checks();

    public static void main(String[] args) throws IOException, ReflectiveOperationException {
        String text = Files.readString(Path.of("README.md"));
        example(text.substring(text.indexOf("```java\n") + 8).lines().toList());
        callsTold(text);
        operationsTold(text);
        checks.end("ReadmeTest");
    }

    private static void example(List<String> lines) throws ReflectiveOperationException {
        checks.due("the example has an end", 1, lines.contains("```") ? 1 : 0);
        Matcher made = MADE.matcher(lines.get(0));
        checks.due("the example makes an object first", 1, made.matches() ? 1 : 0);
        int[] n = numbers(made.group(1));
        CoreTransactions x = new CoreTransactions(n[0], n[1], n[2]);
        for (String line : lines.subList(1, lines.indexOf("```"))) {
            Matcher called = CALLED.matcher(line);
            if (called.matches()) {
                int due = Integer.parseInt(called.group(3));
                checks.due(line, due, answer(x, called.group(1), numbers(called.group(2))));
            } else {
                checks.due("a call and its answer: " + line, 1, 0);
            }
        }
    }

    private static int[] numbers(String listed) {
        if (listed.isEmpty()) {
            return new int[0];
        }
        String[] parts = listed.split(", ");
        int[] numbers = new int[parts.length];
        for (int k = 0; k < parts.length; k++) {
            numbers[k] = Integer.parseInt(parts[k]);
        }
        return numbers;
    }

    private static int answer(CoreTransactions x, String name, int[] arguments) throws ReflectiveOperationException {
        Class<?>[] types = new Class<?>[arguments.length];
        Object[] values = new Object[arguments.length];
        for (int k = 0; k < arguments.length; k++) {
            types[k] = int.class;
            values[k] = arguments[k];
        }
        return (Integer) CoreTransactions.class.getMethod(name, types).invoke(x, values);
    }

    private static void callsTold(String text) {
        for (Method method : CoreTransactions.class.getDeclaredMethods()) {
            if (Modifier.isPublic(method.getModifiers())) {
                Matcher row = Pattern.compile("\\| `" + method.getName() + "\\((.*)\\)` \\|").matcher(text);
                boolean found = row.find();
                checks.due("a row of the call " + method.getName(), 1, found ? 1 : 0);
                int told = !found || row.group(1).isEmpty() ? 0 : row.group(1).split(", ").length;
                checks.due("the arguments of " + method.getName(), method.getParameterCount(), told);
            }
        }
    }

    private static void operationsTold(String text) {
        for (int number = 0; number < OPERATIONS.length; number++) {
            String cell = "| " + number + " " + OPERATIONS[number] + " |";
            checks.due("a place of " + cell, 1, text.contains(cell) ? 1 : 0);
        }
    }
}
