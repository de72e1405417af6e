import java.lang.reflect.Constructor;
import java.lang.reflect.Field;
import java.lang.reflect.Method;
import java.lang.reflect.Modifier;
import java.util.Set;
import java.util.TreeSet;

/** The class shows the document's face and nothing else (LANGUAGE.md, rule 1). */
public final class FaceTest {
    private static final Set<String> FACE = Set.of(
        "public static final int TideDepths.NONE",
        "public TideDepths()",
        "public int TideDepths.turn(long,long)"
            + " throws java.lang.IllegalArgumentException,java.lang.IllegalStateException",
        "public long TideDepths.height(long) throws java.lang.IllegalArgumentException",
        "public int TideDepths.observe(long,long)"
            + " throws java.lang.IllegalArgumentException,java.lang.IllegalStateException",
        "public int TideDepths.span(long,long,long,int) throws java.lang.IllegalArgumentException",
        "public long TideDepths.squat(long,long) throws java.lang.IllegalArgumentException",
        "public long TideDepths.passing(long,long)"
            + " throws java.lang.IllegalArgumentException,java.lang.ArithmeticException",
        "public int TideDepths.cosine(int) throws java.lang.ArrayIndexOutOfBoundsException",
        "public long TideDepths.draft(long,long,long) throws java.lang.IllegalArgumentException",
        "public int TideDepths.place(long,long)"
            + " throws java.lang.IllegalArgumentException,java.lang.IllegalStateException",
        "public long TideDepths.depth(int,long)"
            + " throws java.lang.IndexOutOfBoundsException,java.lang.IllegalArgumentException",
        "public int TideDepths.sail(long,long,long,int)"
            + " throws java.lang.IllegalArgumentException,java.lang.IllegalStateException,"
            + "java.lang.ArithmeticException",
        "public long TideDepths.read(int,int) throws java.lang.IndexOutOfBoundsException",
        "public int TideDepths.count(int)");

    public static void main(String[] args) {
        Set<String> shown = new TreeSet<>();
        Set<String> shownNames = new TreeSet<>();
        Set<String> hiddenNames = new TreeSet<>();
        for (Field field : TideDepths.class.getDeclaredFields()) {
            if (!Modifier.isPrivate(field.getModifiers())) {
                shown.add(field.toString());
            }
            boolean isState = !Modifier.isStatic(field.getModifiers());
            Check.report(field + " is final, or state", "true",
                String.valueOf(isState || Modifier.isFinal(field.getModifiers())));
        }
        for (Constructor<?> made : TideDepths.class.getDeclaredConstructors()) {
            shown.add(made.toString());
        }
        for (Method method : TideDepths.class.getDeclaredMethods()) {
            if (Modifier.isPrivate(method.getModifiers())) {
                hiddenNames.add(method.getName());
            } else {
                shown.add(method.toString());
                shownNames.add(method.getName());
            }
        }
        Check.report("the face", new TreeSet<>(FACE).toString(), shown.toString());
        String how = Modifier.toString(TideDepths.class.getModifiers());
        Check.report("the class", "public final", how);
        hiddenNames.retainAll(shownNames);
        Check.report("private methods with public names", "[]", hiddenNames.toString());
        Check.end();
    }
}
