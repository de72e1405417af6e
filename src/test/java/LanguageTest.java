import java.io.IOException;
import java.lang.reflect.Field;
import java.lang.reflect.Method;
import java.lang.reflect.Modifier;
import java.nio.file.Files;
import java.nio.file.Path;
import java.util.List;
import java.util.Set;
import java.util.TreeSet;
import java.util.regex.Matcher;
import java.util.regex.Pattern;

/**
 * The rules of LANGUAGE.md that can be seen in the class's text without reading it as a whole: what
 * it may call, what it may throw, and how large things may be.
 */
public final class LanguageTest {
    private static final Path CLASS = Path.of("src/main/java/TideDepths.java");

    /** Rules 2 to 6; the class needs no catch, so that none can hide what the machine throws. */
    private static final List<String> NOT_USED = List.of("\\bimport\\b", "\\bpackage\\b",
        "\\btry\\b", "\\bcatch\\b", "\\bfinally\\b", "\\bsynchronized\\b", "\\bassert\\b",
        "->", "::", "Exact\\b", "\\bstatic \\{", "\\bdouble\\b", "\\bfloat\\b");
    /** Rule 4, as far as the class makes use of it. */
    private static final Set<String> LIBRARY = Set.of("Math.floorDiv", "Math.min");
    /** Rule 6, and the exception that promise 8 names. */
    private static final Set<String> THROWN = Set.of("IllegalArgumentException",
        "IllegalStateException", "IndexOutOfBoundsException", "ArithmeticException",
        "ArrayIndexOutOfBoundsException");

    private static final int MOST_PARAMETERS = 7;
    private static final int MOST_FIELDS = 20;
    private static final int MOST_LINES = 60;

    private LanguageTest() {
    }

    public static void main(String[] args) throws IOException {
        String text = Files.readString(CLASS)
            .replaceAll("(?s)/\\*.*?\\*/", "").replaceAll("//[^\\n]*", "");
        for (String word : NOT_USED) {
            holds("no " + word, !Pattern.compile(word).matcher(text).find());
        }
        holds("only such library", LIBRARY.containsAll(found("\\b([A-Z]\\w*\\.\\w+)\\(", text)));
        holds("only such exceptions", THROWN.containsAll(found("\\bthrow new (\\w+)\\(", text)));
        holds("each throw makes its exception with a written text", text.split("\\bthrow\\b").length
            == text.split("\\bthrow new \\w+\\(\"[^\"]*\"\\);").length);
        sizes();
        methodsStayShort(text);
        Check.end();
    }

    private static void holds(String what, boolean got) {
        Check.report("LANGUAGE.md: " + what, "true", String.valueOf(got));
    }

    private static Set<String> found(String pattern, String text) {
        Set<String> all = new TreeSet<>();
        Matcher matcher = Pattern.compile(pattern).matcher(text);
        while (matcher.find()) {
            all.add(matcher.group(1));
        }
        return all;
    }

    private static void sizes() {
        for (Method method : TideDepths.class.getDeclaredMethods()) {
            holds("parameters of " + method.getName(),
                method.getParameterCount() <= MOST_PARAMETERS);
        }
        int fields = 0;
        for (Field field : TideDepths.class.getDeclaredFields()) {
            fields += Modifier.isStatic(field.getModifiers()) ? 0 : 1;
        }
        holds("fields", fields <= MOST_FIELDS);
        holds("no classes inside", TideDepths.class.getDeclaredClasses().length == 0);
    }

    /** A method's brace closes at the indent of the class's members. */
    private static void methodsStayShort(String text) {
        int start = 0;
        int methods = 0;
        String[] lines = text.split("\n");
        for (int i = 0; i < lines.length; i++) {
            if (lines[i].matches(" {4}(public|private) .*\\(.*")) {
                start = i;
            }
            if (lines[i].equals("    }")) {
                methods++;
                holds("lines up to " + (i + 1), i - start < MOST_LINES);
            }
        }
        int due = TideDepths.class.getDeclaredMethods().length + 1;
        Check.report("methods seen, with the constructor", String.valueOf(due),
            String.valueOf(methods));
    }
}
