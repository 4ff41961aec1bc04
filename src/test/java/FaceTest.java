import java.lang.reflect.Field;
import java.lang.reflect.Method;
import java.lang.reflect.Modifier;
import java.util.Arrays;
import java.util.Set;
import java.util.TreeSet;

/** The face is the document's: these members that others can see, and no more. */
public final class FaceTest {
    private static final String[] FACE = {
        "constant int NONE",
        "constructor []",
        "method void begin[int]",
        "method int weights[int, int, int, int, int, int]",
        "method int vector[boolean, int, int, int, int, int, int]",
        "method int cycle[int]",
        "method int cell[int, int, int]",
        "method int entered[int]",
        "method int result[int, int]",
        "method int about[int]",
    };

    public static void main(String[] args) {
        Class<?> face = SquareStream.class;
        Check.same("modifiers", "public final", Modifier.toString(face.getModifiers()));
        Check.same("face", new TreeSet<>(Arrays.asList(FACE)).toString(), seenMembers(face).toString());
        Check.due("NONE", -1, () -> SquareStream.NONE);
        Check.end("FaceTest");
    }

    private static Set<String> seenMembers(Class<?> face) {
        Set<String> seen = new TreeSet<>();
        for (Field f : face.getDeclaredFields()) {
            if (!Modifier.isPrivate(f.getModifiers())) {
                boolean constant = Modifier.toString(f.getModifiers()).equals("public static final");
                seen.add((constant ? "constant " : "field ") + f.getType() + " " + f.getName());
            }
        }
        for (Method m : face.getDeclaredMethods()) {
            if (!Modifier.isPrivate(m.getModifiers())) {
                seen.add("method " + m.getReturnType() + " " + m.getName() + types(m.getParameterTypes()));
            }
        }
        for (var c : face.getDeclaredConstructors()) {
            seen.add("constructor " + types(c.getParameterTypes()));
        }
        return seen;
    }

    private static String types(Class<?>[] types) {
        return Arrays.toString(types);
    }
}
