import java.lang.reflect.Constructor;
import java.lang.reflect.Field;
import java.lang.reflect.Method;
import java.lang.reflect.Modifier;
import java.util.Arrays;
import java.util.TreeSet;

/** The class shows the document's public face, not a member more, and keeps only its own rows. */
public final class FaceTest {
    private static final String[] FACE = {
        "public PatternTree()",
        "public int PatternTree.add(long,long) throws "
                + "java.lang.IllegalArgumentException,java.lang.IllegalStateException",
        "public int PatternTree.count(int)",
        "public int PatternTree.decode(long)",
        "public int PatternTree.meets(long,long) throws java.lang.IllegalArgumentException",
        "public int PatternTree.signs(long) throws "
                + "java.lang.IllegalArgumentException,java.lang.IllegalStateException",
        "public long PatternTree.free(long,long) throws java.lang.IllegalArgumentException",
        "public long PatternTree.next(long) throws java.util.NoSuchElementException",
        "public long PatternTree.told(int,int) throws "
                + "java.lang.IllegalArgumentException,java.util.NoSuchElementException",
        "public void PatternTree.clear(int) throws java.lang.IllegalArgumentException",
        "public void PatternTree.drop(int) throws java.util.NoSuchElementException",
    };

    public static void main(String[] args) {
        Check check = new Check();
        check.same("the class", "public final", Modifier.toString(PatternTree.class.getModifiers()));
        TreeSet<String> seen = new TreeSet<>();
        for (Constructor<?> c : PatternTree.class.getDeclaredConstructors()) {
            keepShown(seen, c.getModifiers(), c.toString());
        }
        for (Method m : PatternTree.class.getDeclaredMethods()) {
            keepShown(seen, m.getModifiers(), m.toString());
        }
        for (Field f : PatternTree.class.getDeclaredFields()) {
            keepShown(seen, f.getModifiers(), f.toString());
        }
        check.same("the face", new TreeSet<>(Arrays.asList(FACE)).toString(), seen.toString());
        check.sentence("Terms", "All memory is the class's own rows", () -> memory(check));
        check.sentence("LANGUAGE.md, 1", "No private method bears the name of a public one", () -> names(check));
        check.end("FaceTest");
    }

    private static void memory(Check check) {
        for (Field f : PatternTree.class.getDeclaredFields()) {
            check.same(f.toString(), "true", "" + isOwnMemory(f));
        }
    }

    /** Numbers and rows of numbers; what is static is shared by all objects, so it must be fixed. */
    private static boolean isOwnMemory(Field f) {
        Class<?> type = f.getType();
        if (Modifier.isStatic(f.getModifiers())) {
            return type.isPrimitive() && Modifier.isFinal(f.getModifiers());
        }
        return type.isPrimitive() || type.isArray() && type.getComponentType().isPrimitive();
    }

    private static void names(Check check) {
        for (Method m : PatternTree.class.getDeclaredMethods()) {
            if (Modifier.isPrivate(m.getModifiers())) {
                check.same(m.toString(), "false", "" + isOfFace(m.getName()));
            }
        }
    }

    private static boolean isOfFace(String name) {
        for (String member : FACE) {
            if (member.contains("." + name + "(")) {
                return true;
            }
        }
        return false;
    }

    private static void keepShown(TreeSet<String> seen, int modifiers, String member) {
        if (!Modifier.isPrivate(modifiers)) {
            seen.add(member);
        }
    }
}
