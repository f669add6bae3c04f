import java.io.IOException;
import java.lang.reflect.Constructor;
import java.lang.reflect.Field;
import java.lang.reflect.Method;
import java.lang.reflect.Modifier;
import java.nio.file.Files;
import java.nio.file.Path;
import java.util.Set;
import java.util.TreeSet;
import java.util.regex.Matcher;
import java.util.regex.Pattern;

/** The public face as the document has it, and the rules of the language that a look at the text can tell. */
public final class FaceTests {
    private static final Path SOURCE = Path.of("src/main/java/NeverMistaken.java");
    private static final String[] FACE = {
        "feed(int,int,int,int,int)", "end(int)", "net(int,int)", "mistake(int,int,int,boolean)", "ring(int,int)",
        "told(int)", "fault(int)", "both(int,int,int)", "either(int,int,int)", "about(int,int)",
        "taken(int,int,int,int)", "most(int,int)", "word(int)", "ways(int,int)", "heaps(int)", "heap(int)",
        "row(int,int,int,int)", "stands(int)", "bound(int,int)", "compare(int,int,int,int)", "best(int)", "met(int)",
        "came(int)", "sent()", "list(int,int)", "listed()", "count(int)"};
    private static final String[] FORBIDDEN = {
        "throw", "try", "catch", "synchronized", "assert", "->", "::", "Exact", "import", "package", "protected",
        "volatile", "native", "Thread", "System", "Random", "Object", "hashCode", "toString", "NaN", "lambda"};

    private static final Check check = new Check("FaceTests");

    public static void main(String[] args) throws IOException {
        constants();
        members();
        insideClasses();
        text();
        check.close();
    }

    private static void constants() {
        check.due("NONE", NeverMistaken.NONE, -1);
        check.due("RANGE", NeverMistaken.RANGE, -2);
        check.due("FULL", NeverMistaken.FULL, -3);
        check.due("STATE", NeverMistaken.STATE, -4);
    }

    private static String signature(Method method) {
        StringBuilder text = new StringBuilder(method.getName()).append('(');
        for (Class<?> type : method.getParameterTypes()) {
            text.append(text.charAt(text.length() - 1) == '(' ? "" : ",").append(type.getName());
        }
        return text.append(')').toString();
    }

    private static void members() {
        check.due("public and final", NeverMistaken.class.getModifiers(), Modifier.PUBLIC | Modifier.FINAL);
        Constructor<?>[] makers = NeverMistaken.class.getDeclaredConstructors();
        check.due("constructors", makers.length, 1);
        check.due("its parameters", makers[0].getParameterCount(), 0);
        check.holds("public", Modifier.isPublic(makers[0].getModifiers()));
        Set<String> open = new TreeSet<>();
        Set<String> names = new TreeSet<>();
        for (Method method : NeverMistaken.class.getDeclaredMethods()) {
            if (Modifier.isPublic(method.getModifiers())) {
                check.holds("int " + method, method.getReturnType() == int.class && !Modifier.isStatic(method.getModifiers()));
                open.add(signature(method));
                names.add(method.getName());
            }
        }
        check.holds("the face " + open, open.equals(new TreeSet<>(Set.of(FACE))));
        for (Method method : NeverMistaken.class.getDeclaredMethods()) {
            if (!Modifier.isPublic(method.getModifiers())) {
                check.holds("private " + method, Modifier.isPrivate(method.getModifiers()) && !names.contains(method.getName()));
            }
        }
        int constants = 0;
        for (Field field : NeverMistaken.class.getDeclaredFields()) {
            int how = field.getModifiers();
            constants += Modifier.isPublic(how) ? 1 : 0;
            check.holds("private " + field, Modifier.isPublic(how) || Modifier.isPrivate(how));
        }
        check.due("constants", constants, 4);
    }

    private static void insideClasses() {
        Class<?>[] inside = NeverMistaken.class.getDeclaredClasses();
        check.holds("at most twelve classes", inside.length < 12);
        for (Class<?> one : inside) {
            check.holds("static " + one, Modifier.isStatic(one.getModifiers()) && !Modifier.isPublic(one.getModifiers()));
            for (Method method : one.getDeclaredMethods()) {
                check.holds("at most seven parameters " + method, method.getParameterCount() <= 7);
                check.holds("not a name of the face " + method, Set.of(FACE).stream().noneMatch(f -> f.startsWith(method.getName() + "(")));
            }
            for (Field field : one.getDeclaredFields()) {
                int how = field.getModifiers();
                check.holds("final if static " + field, !Modifier.isStatic(how) || Modifier.isFinal(how));
            }
        }
    }

    private static void text() throws IOException {
        String text = Files.readString(SOURCE);
        check.holds("plain signs alone", text.chars().allMatch(c -> c == '\n' || c >= 32 && c < 127));
        String bare = text.replaceAll("(?s)/\\*.*?\\*/", " ").replaceAll("//[^\n]*", " ");
        for (String word : FORBIDDEN) {
            String pattern = Character.isLetter(word.charAt(0)) ? "\\b" + word : Pattern.quote(word);
            Matcher found = Pattern.compile(pattern).matcher(bare);
            check.holds("without " + word, !found.find());
        }
        check.holds("no static block", !Pattern.compile("static\\s*\\{").matcher(bare).find());
        check.holds("no lines longer than 120", text.lines().allMatch(line -> line.length() <= 120));
    }
}
