import java.io.IOException;
import java.lang.reflect.InvocationTargetException;
import java.lang.reflect.Method;
import java.nio.file.Files;
import java.nio.file.Path;
import java.util.Arrays;
import java.util.Comparator;

/** Runs tests that each hold the class to one sentence of the document, on both sides of a boundary. */
abstract class Boundary {
    static final int NONE = -1;
    static final int RANGE = -2;
    static final int FULL = -3;
    static final int STATE = -4;
    static final int NO_ROW = -31;
    /** Numbers that no argument can be, however it is turned or cut. */
    static final int[] FAR = {Integer.MIN_VALUE, Integer.MIN_VALUE + 1, -65536, -256, 256, 65536, Integer.MAX_VALUE};

    private static final Path DOCUMENT = Path.of("../shared/DOC.md");

    private static Check check;
    private static String under = "";

    static void due(String call, long got, long want) {
        check.due(under + call, got, want);
    }

    /** Runs every test of a class, and looks whether each of these promises has one. */
    static void run(Class<?> tests, int first, int last) throws IOException, ReflectiveOperationException {
        check = new Check(tests.getSimpleName());
        String document = Files.isReadable(DOCUMENT) ? plain(Files.readString(DOCUMENT)) : "";
        int[] held = new int[last + 1];
        Method[] methods = tests.getDeclaredMethods();
        Arrays.sort(methods, Comparator.comparing(Method::getName));
        for (Method method : methods) {
            Sentence sentence = method.getAnnotation(Sentence.class);
            if (sentence != null) {
                under = "promise " + sentence.of() + " (" + sentence.says() + "), " + method.getName() + ": ";
                check.holds("the document says so", document.isEmpty() || part(document, sentence.of()).contains(sentence.says()));
                check.holds("of these promises", sentence.of() >= first && sentence.of() <= last);
                held[Math.min(last, sentence.of())]++;
                call(method);
            }
        }
        under = "";
        for (int promise = first; promise <= last; promise++) {
            check.holds("a test of promise " + promise, held[promise] > 0);
        }
        check.close();
    }

    private static void call(Method test) throws ReflectiveOperationException {
        try {
            test.invoke(null);
        } catch (InvocationTargetException thrown) {
            thrown.getCause().printStackTrace(System.out);
            check.holds("throws nothing", false);
        }
    }

    private static String plain(String text) {
        return text.replaceAll("\\s+", " ");
    }

    /** What stands under the heading of one promise; of 0 all that is ahead of promise 1. */
    private static String part(String document, int promise) {
        int from = promise == 0 ? 0 : document.indexOf("## Promise " + promise + ":");
        int to = document.indexOf("## Promise " + (promise + 1) + ":");
        return from < 0 ? "" : document.substring(from, to < 0 ? document.length() : to);
    }

    /** So many letters one after another, a ; between them, each with the same signs. */
    static String alike(int letters, String signs) {
        StringBuilder text = new StringBuilder(signs);
        for (int a = 1; a < letters; a++) {
            text.append(';').append(signs);
        }
        return text.toString();
    }

    /** So many letters, each with the sign of its own number. */
    static String apart(int letters) {
        StringBuilder text = new StringBuilder("a");
        for (int a = 1; a < letters; a++) {
            text.append(';').append((char) ('a' + a));
        }
        return text.toString();
    }

    /** A text with blanks behind it up to a length. */
    static String filled(String text, int length) {
        StringBuilder whole = new StringBuilder(text);
        while (whole.length() < length) {
            whole.append(whole.length() % 3 == 0 ? '\n' : ' ');
        }
        return whole.toString();
    }
}
