import java.io.IOException;
import java.lang.reflect.Method;
import java.lang.reflect.Modifier;
import java.nio.file.Files;
import java.nio.file.Path;
import java.util.List;
import java.util.regex.Matcher;
import java.util.regex.Pattern;

/** The examples of README.md answer what they say, and its table has every call of the face. */
public final class ReadmeTest {
    private static final Pattern CALL = Pattern.compile("line\\.(\\w+)\\(([-0-9, ]*)\\); +// (.*)");
    private static final Pattern ANSWER = Pattern.compile("(-?\\d+|true|false)(:.*)?");

    private FlowedLine line = new FlowedLine();
    private int calls = 0;

    public static void main(String[] args) throws IOException, ReflectiveOperationException {
        List<String> readme = Files.readAllLines(Path.of("README.md"));
        new ReadmeTest().examples(readme);
        table(readme);
        Check.finish();
    }

    private void examples(List<String> readme) throws ReflectiveOperationException {
        boolean inside = false;
        for (String row : readme) {
            if (row.startsWith("```")) {
                inside = row.equals("```java");
            } else if (inside && !row.isEmpty()) {
                example(row);
            }
        }
        Check.due("there are examples", calls > 0, true);
    }

    private void example(String row) throws ReflectiveOperationException {
        if (row.equals("FlowedLine line = new FlowedLine();")) {
            line = new FlowedLine();
            return;
        }
        if (row.startsWith("line.start();")) {
            line.start();
            return;
        }
        Matcher call = CALL.matcher(row);
        Matcher answer = ANSWER.matcher(call.matches() ? call.group(3) : "");
        Check.due("can be run: " + row, answer.matches(), true);
        if (answer.matches()) {
            calls++;
            Check.due(row, String.valueOf(answerOf(call.group(1), call.group(2))), answer.group(1));
        }
    }

    private Object answerOf(String name, String arguments) throws ReflectiveOperationException {
        String[] words = arguments.isEmpty() ? new String[0] : arguments.split(", *");
        Class<?>[] types = new Class<?>[words.length];
        Object[] numbers = new Object[words.length];
        for (int k = 0; k < words.length; k++) {
            types[k] = int.class;
            numbers[k] = Integer.valueOf(words[k]);
        }
        return FlowedLine.class.getMethod(name, types).invoke(line, numbers);
    }

    private static void table(List<String> readme) {
        Check.due("the constructor is in the table", rowsThatBegin(readme, "| `FlowedLine()` |"), 1);
        int rows = 1;
        for (Method m : FlowedLine.class.getDeclaredMethods()) {
            if (Modifier.isPublic(m.getModifiers())) {
                String start = "| `" + m.getReturnType().getName() + " " + m.getName() + "(";
                Check.due(m.getName() + " is in the table", rowsThatBegin(readme, start), 1);
                rows++;
            }
        }
        Check.due("the table has no other call", rowsThatBegin(readme, "| `"), rows);
    }

    private static int rowsThatBegin(List<String> readme, String start) {
        int rows = 0;
        for (String row : readme) {
            rows += row.startsWith(start) ? 1 : 0;
        }
        return rows;
    }
}
