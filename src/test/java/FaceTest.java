import java.lang.reflect.Constructor;
import java.lang.reflect.Field;
import java.lang.reflect.Method;
import java.lang.reflect.Modifier;
import java.util.Arrays;
import java.util.Set;
import java.util.TreeSet;

/** The face is the document's: these members that others can see, as they are written there, and no more. */
public final class FaceTest {
    private static final String[] FACE = {
        "public static final int SquareStream.NONE",
        "public SquareStream()",
        "public void SquareStream.begin(int) throws java.lang.IllegalArgumentException",
        "public int SquareStream.weights(int,int,int,int,int,int) throws java.lang.UnsupportedOperationException",
        "public int SquareStream.vector(boolean,int,int,int,int,int,int) throws java.lang.UnsupportedOperationException",
        "public int SquareStream.cycle(int) throws java.lang.IllegalArgumentException",
        "public int SquareStream.cell(int,int,int) throws java.lang.IndexOutOfBoundsException,java.lang.IllegalArgumentException",
        "public int SquareStream.entered(int) throws java.lang.IndexOutOfBoundsException",
        "public int SquareStream.result(int,int) throws java.lang.IndexOutOfBoundsException,java.util.NoSuchElementException",
        "public int SquareStream.about(int) throws java.lang.IllegalArgumentException",
    };

    public static void main(String[] args) {
        Class<?> face = SquareStream.class;
        Check.same("class", "public final SquareStream extends class java.lang.Object []",
                Modifier.toString(face.getModifiers()) + " " + face.getName() + " extends " + face.getSuperclass()
                        + " " + Arrays.toString(face.getInterfaces()));
        compareMembers(seenMembers(face));
        Check.due("NONE", -1, () -> SquareStream.NONE);
        Check.same("private methods named like public ones", "[]", namesOfBoth(face).toString());
        Check.same("static fields that can be changed", "[]", looseStatics(face).toString());
        Check.end("FaceTest");
    }

    private static void compareMembers(Set<String> seen) {
        for (String member : FACE) {
            Check.same("is seen: " + member, "true", Boolean.toString(seen.contains(member)));
        }
        Set<String> more = new TreeSet<>(seen);
        more.removeAll(Arrays.asList(FACE));
        Check.same("seen beyond the face", "[]", more.toString());
    }

    private static Set<String> seenMembers(Class<?> face) {
        Set<String> seen = new TreeSet<>();
        for (Field f : face.getDeclaredFields()) {
            addIfSeen(seen, f.getModifiers(), f.toString());
        }
        for (Method m : face.getDeclaredMethods()) {
            addIfSeen(seen, m.getModifiers(), m.toString());
        }
        for (Constructor<?> c : face.getDeclaredConstructors()) {
            addIfSeen(seen, c.getModifiers(), c.toString());
        }
        return seen;
    }

    private static void addIfSeen(Set<String> seen, int modifiers, String member) {
        if (!Modifier.isPrivate(modifiers)) {
            seen.add(member);
        }
    }

    private static Set<String> namesOfBoth(Class<?> face) {
        Set<String> open = new TreeSet<>();
        Set<String> hidden = new TreeSet<>();
        for (Method m : face.getDeclaredMethods()) {
            (Modifier.isPublic(m.getModifiers()) ? open : hidden).add(m.getName());
        }
        open.retainAll(hidden);
        return open;
    }

    private static Set<String> looseStatics(Class<?> face) {
        Set<String> loose = new TreeSet<>();
        for (Field f : face.getDeclaredFields()) {
            if (Modifier.isStatic(f.getModifiers()) && !Modifier.isFinal(f.getModifiers())) {
                loose.add(f.getName());
            }
        }
        return loose;
    }
}
