import java.io.IOException;
import java.lang.reflect.Method;
import java.lang.reflect.Modifier;
import java.nio.file.DirectoryStream;
import java.nio.file.Files;
import java.nio.file.Path;
import java.util.HashMap;
import java.util.List;
import java.util.Map;
import java.util.Set;
import java.util.TreeSet;
import java.util.regex.Matcher;
import java.util.regex.Pattern;

/**
 * Makes the calls that README.md shows, row by row, and compares their answers with the shown
 * ones. It reads README.md itself, so that a row can't be changed there without being tried.
 */
public final class ReadmeTest {
    private static final Path README = Path.of("README.md");
    private static final Path TESTS = Path.of("src/test/java");
    private static final String BEGIN = "```java";
    private static final String END = "```";
    private static final Pattern NEW_OBJECT =
        Pattern.compile("BracketSweep (\\w+) = new BracketSweep\\(\\);");
    private static final Pattern CALL =
        Pattern.compile("(\\w+)\\.((\\w+)\\(([^()]*)\\)); +// (-?\\d+|true|false)(: .+)?");

    private final Check check = new Check();
    private final Map<String, BracketSweep> objects = new HashMap<>();
    private final Set<String> notShown = new TreeSet<>();

    public static void main(String[] args) throws IOException, ReflectiveOperationException {
        ReadmeTest test = new ReadmeTest();
        List<String> readme = Files.readAllLines(README);
        test.callsAsShown(readme);
        test.everyTestIsNamed(readme);
        test.check.end();
    }

    private void callsAsShown(List<String> readme) throws ReflectiveOperationException {
        for (Method m : BracketSweep.class.getDeclaredMethods()) {
            if (Modifier.isPublic(m.getModifiers())) {
                notShown.add(m.getName());
            }
        }
        boolean inside = false;
        for (int i = 0; i < readme.size(); i++) {
            String row = readme.get(i);
            if (row.startsWith(END)) {
                inside = row.equals(BEGIN);
            } else if (inside && !row.isEmpty()) {
                tryRow("README.md, row " + (i + 1) + ": ", row);
            }
        }
        check.due("the last piece of calls has no end", inside, false);
        check.due("calls that are not shown: " + notShown, notShown.size(), 0);
    }

    private void tryRow(String where, String row) throws ReflectiveOperationException {
        Matcher made = NEW_OBJECT.matcher(row);
        if (made.matches()) {
            objects.put(made.group(1), new BracketSweep());
            return;
        }
        Matcher call = CALL.matcher(row);
        BracketSweep object = call.matches() ? objects.get(call.group(1)) : null;
        Method method = object == null ? null : methodNamed(call.group(3));
        if (method == null) {
            check.due(where + row + " is a call with its answer", false, true);
            return;
        }
        notShown.remove(method.getName());
        Object got = method.invoke(object, arguments(method, call.group(4)));
        check.due(where + call.group(2), String.valueOf(got), call.group(5));
    }

    private static Method methodNamed(String name) {
        for (Method m : BracketSweep.class.getDeclaredMethods()) {
            if (m.getName().equals(name) && Modifier.isPublic(m.getModifiers())) {
                return m;
            }
        }
        return null;
    }

    /** A wrong number of them, or one of another type, ends the test with an exception. */
    private static Object[] arguments(Method method, String list) {
        String[] words = list.isEmpty() ? new String[0] : list.split(", ");
        Object[] values = new Object[words.length];
        for (int i = 0; i < words.length; i++) {
            boolean truth = words[i].equals("true") || words[i].equals("false");
            values[i] = truth ? (Object) Boolean.valueOf(words[i]) : Integer.valueOf(words[i]);
        }
        if (values.length != method.getParameterCount()) {
            throw new IllegalArgumentException(method.getName() + "(" + list + ")");
        }
        return values;
    }

    private void everyTestIsNamed(List<String> readme) throws IOException {
        String text = String.join("\n", readme);
        try (DirectoryStream<Path> files = Files.newDirectoryStream(TESTS, "*Test.java")) {
            for (Path file : files) {
                String name = file.getFileName().toString().replace(".java", "");
                check.due(name + " is named in README.md", text.contains("`" + name + "`"), true);
            }
        }
    }
}
