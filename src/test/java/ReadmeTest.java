import java.io.IOException;
import java.lang.reflect.InvocationTargetException;
import java.lang.reflect.Method;
import java.lang.reflect.Modifier;
import java.nio.file.DirectoryStream;
import java.nio.file.Files;
import java.nio.file.Path;
import java.util.ArrayList;
import java.util.List;
import java.util.Set;
import java.util.TreeSet;
import java.util.regex.Matcher;
import java.util.regex.Pattern;

/**
 * What README.md shows of the class's use holds: each call of its Java blocks is made, in its
 * order, and answers what stands behind it; each public method is shown; each test is named.
 */
public final class ReadmeTest {
    private static final Path README = Path.of("README.md");
    private static final Path TESTS = Path.of("src/test/java");
    private static final String MAKING = "TideDepths tide = new TideDepths();";
    private static final Pattern CALL =
        Pattern.compile("tide\\.(\\w+)\\(([-\\d, ]*)\\); +// (-?\\d+|NONE|\\w+Exception)(:.*)?");

    private final Set<String> shown = new TreeSet<>();
    private TideDepths tide;

    public static void main(String[] args) throws IOException {
        new ReadmeTest().run();
        Check.end();
    }

    private void run() throws IOException {
        for (String line : linesOfJavaBlocks()) {
            if (line.equals(MAKING)) {
                tide = new TideDepths();
            } else if (!line.isEmpty()) {
                call(line);
            }
        }
        Check.report("the methods that README.md shows", publicMethods().toString(),
            shown.toString());
        everyTestIsNamed();
    }

    private static List<String> linesOfJavaBlocks() throws IOException {
        List<String> lines = new ArrayList<>();
        boolean within = false;
        for (String line : Files.readAllLines(README)) {
            if (line.startsWith("```")) {
                within = line.equals("```java");
            } else if (within) {
                lines.add(line.strip());
            }
        }
        return lines;
    }

    private void call(String line) {
        Matcher parts = CALL.matcher(line);
        boolean understood = parts.matches() && tide != null;
        Check.report("README.md: '" + line + "' tells its answer", "true",
            String.valueOf(understood));
        if (!understood) {
            return;
        }
        shown.add(parts.group(1));
        String due = parts.group(3).equals("NONE")
            ? String.valueOf(TideDepths.NONE) : parts.group(3);
        Check.report("README.md: " + line, due,
            answer(parts.group(1), parts.group(2).split(", ")));
    }

    private String answer(String name, String[] texts) {
        for (Method method : TideDepths.class.getDeclaredMethods()) {
            boolean isPublic = Modifier.isPublic(method.getModifiers());
            if (isPublic && method.getName().equals(name)
                    && method.getParameterCount() == texts.length) {
                return answer(method, texts);
            }
        }
        return "no such method";
    }

    private String answer(Method method, String[] texts) {
        Class<?>[] types = method.getParameterTypes();
        Object[] values = new Object[texts.length];
        for (int i = 0; i < texts.length; i++) {
            long value = Long.parseLong(texts[i]);
            values[i] = types[i] == int.class ? (Object) Math.toIntExact(value) : (Object) value;
        }
        try {
            return String.valueOf(method.invoke(tide, values));
        } catch (InvocationTargetException e) {
            return e.getCause().getClass().getSimpleName();
        } catch (IllegalAccessException e) {
            return "not to be called";
        }
    }

    private static Set<String> publicMethods() {
        Set<String> names = new TreeSet<>();
        for (Method method : TideDepths.class.getDeclaredMethods()) {
            if (Modifier.isPublic(method.getModifiers())) {
                names.add(method.getName());
            }
        }
        return names;
    }

    private static void everyTestIsNamed() throws IOException {
        String text = Files.readString(README);
        try (DirectoryStream<Path> files = Files.newDirectoryStream(TESTS, "*.java")) {
            for (Path file : files) {
                String name = file.getFileName().toString().replace(".java", "");
                Check.report("README.md names " + name, "true",
                    String.valueOf(text.contains("`" + name + "`")));
            }
        }
    }
}
