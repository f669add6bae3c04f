import java.lang.reflect.Method;
import java.lang.reflect.Modifier;
import java.nio.file.Files;
import java.nio.file.Path;
import java.util.ArrayList;
import java.util.List;
import java.util.Set;
import java.util.TreeSet;
import java.util.regex.Matcher;
import java.util.regex.Pattern;

/** Whether README.md tells the truth: its examples are run, and it names every call under its promise. */
public final class ReadmeTests {
    private static final Path README = Path.of("README.md");
    private static final Path DOCUMENT = Path.of("../shared/DOC.md");
    private static final Pattern CALL = Pattern.compile("x\\.(\\w+)\\(([^)]*)\\);(?:\\s*// (-?\\d+)\\b.*)?");

    private static final Check check = new Check("ReadmeTests");
    private static final Set<String> shown = new TreeSet<>();

    public static void main(String[] args) throws Exception {
        String text = Files.readString(README);
        Matcher block = Pattern.compile("(?s)```java\\n(.*?)```").matcher(text);
        while (block.find()) {
            runExample(block.group(1).strip().split("\n"));
        }
        namesEveryCall(text);
        check.close();
    }

    private static void runExample(String[] rows) throws ReflectiveOperationException {
        check.holds("begins with a new object: " + rows[0], rows[0].equals("NeverMistaken x = new NeverMistaken();"));
        NeverMistaken x = new NeverMistaken();
        for (int i = 1; i < rows.length; i++) {
            Matcher call = CALL.matcher(rows[i]);
            boolean isCall = call.matches();
            check.holds("a call: " + rows[i], isCall);
            if (isCall) {
                int got = call(x, call.group(1), call.group(2));
                shown.add(call.group(1));
                if (call.group(3) != null) {
                    check.due(rows[i], got, Integer.parseInt(call.group(3)));
                }
            }
        }
    }

    private static int call(NeverMistaken x, String name, String arguments) throws ReflectiveOperationException {
        List<Object> values = new ArrayList<>();
        for (String one : arguments.isEmpty() ? new String[0] : arguments.split(", ")) {
            values.add(one.equals("true") || one.equals("false") ? (Object) Boolean.valueOf(one) : (Object) Long.decode(one).intValue());
        }
        for (Method method : NeverMistaken.class.getMethods()) {
            if (method.getName().equals(name) && method.getParameterCount() == values.size()) {
                return (int) method.invoke(x, values.toArray());
            }
        }
        check.holds("there is a call " + name, false);
        return 0;
    }

    private static void namesEveryCall(String text) throws Exception {
        String document = Files.isReadable(DOCUMENT) ? Files.readString(DOCUMENT) : "";
        for (Method method : NeverMistaken.class.getDeclaredMethods()) {
            if (Modifier.isPublic(method.getModifiers())) {
                String name = method.getName();
                Matcher row = Pattern.compile("\\| (\\d+) \\| `" + name + "\\(([^)]*)\\)` \\|").matcher(text);
                boolean found = row.find();
                check.holds("names " + name, found);
                check.holds("an example of " + name, shown.contains(name));
                if (found) {
                    int many = row.group(2).isEmpty() ? 0 : row.group(2).split(", ").length;
                    check.due("arguments of " + name, many, method.getParameterCount());
                    String heading = "## Promise " + row.group(1) + ": " + name + "\n";
                    check.holds("promise of " + name, document.isEmpty() || document.contains(heading));
                }
            }
        }
    }
}
