import java.lang.reflect.Constructor;
import java.lang.reflect.Field;
import java.lang.reflect.Method;
import java.lang.reflect.Modifier;
import java.util.Arrays;
import java.util.HashSet;
import java.util.List;
import java.util.Set;
import java.util.TreeSet;

/** The public face of the document, and rule 1 of LANGUAGE.md: nothing else can be seen. */
public final class FaceTest {
    private static final List<String> FACE = List.of(
            "public static final int NONE", "public static final int NO_CLASS",
            "public CellTests()",
            "public int cell()", "public boolean span(int, int)", "public boolean warm(int, int)",
            "public boolean step(int, int, int, int)", "public boolean rest(int, int, int)",
            "public long charge(int)", "public int resistance(int, int)",
            "public int loss(int, int)", "public boolean unit(int)", "public int rules()",
            "public int cls(int)", "public boolean unsafe(int)", "public boolean may(int, int)",
            "public long pack(int, int)", "public int packOf(int)",
            "public boolean row(int, int)", "public long fade(int, int)",
            "public int record(int, int)");

    private static String types(Class<?>[] types) {
        return String.join(", ", Arrays.stream(types).map(Class::getName).toList());
    }

    private static String name(Method m) {
        return Modifier.toString(m.getModifiers()) + " " + m.getReturnType().getName() + " "
                + m.getName() + "(" + types(m.getParameterTypes()) + ")";
    }

    private static Set<String> visible() {
        Set<String> seen = new TreeSet<>();
        for (Field f : CellTests.class.getDeclaredFields()) {
            if (!Modifier.isPrivate(f.getModifiers())) {
                seen.add(Modifier.toString(f.getModifiers()) + " " + f.getType().getName() + " "
                        + f.getName());
            }
        }
        for (Constructor<?> c : CellTests.class.getDeclaredConstructors()) {
            if (!Modifier.isPrivate(c.getModifiers())) {
                seen.add(Modifier.toString(c.getModifiers()) + " CellTests("
                        + types(c.getParameterTypes()) + ")");
            }
        }
        for (Method m : CellTests.class.getDeclaredMethods()) {
            if (!Modifier.isPrivate(m.getModifiers())) {
                seen.add(name(m));
            }
        }
        return seen;
    }

    private static Set<String> namesOfFace() {
        Set<String> names = new HashSet<>();
        for (Method m : CellTests.class.getDeclaredMethods()) {
            if (Modifier.isPublic(m.getModifiers())) {
                names.add(m.getName());
            }
        }
        return names;
    }

    public static void main(String[] args) {
        Check check = new Check("Face");
        Set<String> seen = visible();
        for (String member : FACE) {
            check.yes("the face has " + member, seen.contains(member));
        }
        for (String member : seen) {
            check.yes("the document has " + member, FACE.contains(member));
        }
        check.is("public and final", CellTests.class.getModifiers(),
                Modifier.PUBLIC | Modifier.FINAL);
        Set<String> names = namesOfFace();
        for (Class<?> inside : CellTests.class.getDeclaredClasses()) {
            check.yes("static: " + inside, Modifier.isStatic(inside.getModifiers()));
            for (Method m : inside.getDeclaredMethods()) {
                check.no("a name of the face: " + m, names.contains(m.getName()));
            }
        }
        check.end();
    }
}
