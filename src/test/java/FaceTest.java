import java.lang.reflect.Constructor;
import java.lang.reflect.Field;
import java.lang.reflect.Method;
import java.lang.reflect.Modifier;
import java.util.Arrays;
import java.util.HashSet;
import java.util.List;
import java.util.Set;
import java.util.TreeSet;

/** The members of the class are those of the document's face, and no others are seen. */
public final class FaceTest {
    private static final List<String> FACE = List.of(
            "int addItem(char) IllegalArgumentException IllegalStateException",
            "char kindOf(int) IndexOutOfBoundsException",
            "int addBranch(int) IndexOutOfBoundsException IllegalStateException",
            "int head(int) IndexOutOfBoundsException",
            "int set(int, int, int) IndexOutOfBoundsException IllegalArgumentException IllegalStateException",
            "int clear(int, int) IndexOutOfBoundsException UnsupportedOperationException IllegalStateException",
            "int settle(int, int, int) IndexOutOfBoundsException UnsupportedOperationException"
                    + " NoSuchElementException IllegalStateException",
            "int tag(int, int) IndexOutOfBoundsException IllegalArgumentException",
            "int tagged(int) IllegalArgumentException NoSuchElementException",
            "int commits()",
            "int parents(int) IndexOutOfBoundsException",
            "int parentAt(int, int) IndexOutOfBoundsException NoSuchElementException",
            "boolean isAncestor(int, int) IndexOutOfBoundsException",
            "int base(int, int) IndexOutOfBoundsException",
            "int sides(int, int) IndexOutOfBoundsException",
            "int sideAt(int, int, int) IndexOutOfBoundsException NoSuchElementException",
            "int sideByLog(int, int, int) IndexOutOfBoundsException NoSuchElementException",
            "int conflicts(int) IndexOutOfBoundsException",
            "int firstConflict(int) IndexOutOfBoundsException NoSuchElementException",
            "int differences(int, int) IndexOutOfBoundsException",
            "int blame(int, int) IndexOutOfBoundsException",
            "int blamed(int, int) IndexOutOfBoundsException",
            "int merge(int, int) IndexOutOfBoundsException UnsupportedOperationException IllegalStateException",
            "int wouldConflict(int, int) IndexOutOfBoundsException",
            "boolean isAlike(int, int) IndexOutOfBoundsException",
            "int pick(int, int) IndexOutOfBoundsException UnsupportedOperationException IllegalStateException",
            "int quote(int, int, int) IndexOutOfBoundsException IllegalArgumentException IllegalStateException",
            "boolean isBroken(int, int) IndexOutOfBoundsException",
            "int broken(int) IndexOutOfBoundsException",
            "long sum(int) IndexOutOfBoundsException",
            "float conflictShare(int) IndexOutOfBoundsException NoSuchElementException");

    private FaceTest() {
    }

    public static void main(String[] args) {
        Class<?> face = MergeAtelier.class;
        Due.same("modifiers of the class", "public final", Modifier.toString(face.getModifiers()));
        Due.same("methods that are seen", new TreeSet<>(FACE).toString(), seenMethods(face).toString());
        Due.same("constructors", "[public MergeAtelier()]", Arrays.toString(constructors(face)));
        noOtherMembers(face);
        Due.end("FaceTest");
    }

    private static TreeSet<String> seenMethods(Class<?> face) {
        TreeSet<String> seen = new TreeSet<>();
        for (Method method : face.getDeclaredMethods()) {
            if (!Modifier.isPrivate(method.getModifiers()) && !method.isSynthetic()) {
                String line = method.getReturnType() + " " + method.getName() + types(", ", "(", ")", method.getParameterTypes());
                seen.add(line + types(" ", method.getExceptionTypes().length == 0 ? "" : " ", "", method.getExceptionTypes()));
            }
        }
        return seen;
    }

    private static String types(String between, String before, String after, Class<?>[] types) {
        StringBuilder text = new StringBuilder(before);
        for (int i = 0; i < types.length; i++) {
            text.append(i == 0 ? "" : between).append(types[i].getSimpleName());
        }
        return text.append(after).toString();
    }

    private static String[] constructors(Class<?> face) {
        Constructor<?>[] all = face.getDeclaredConstructors();
        String[] texts = new String[all.length];
        for (int i = 0; i < all.length; i++) {
            texts[i] = all[i].toString();
        }
        return texts;
    }

    private static void noOtherMembers(Class<?> face) {
        Set<String> publicNames = new HashSet<>();
        for (Method method : face.getDeclaredMethods()) {
            if (Modifier.isPublic(method.getModifiers())) {
                publicNames.add(method.getName());
            }
        }
        for (Field field : face.getDeclaredFields()) {
            Due.same("privacy of " + field, "true", "" + Modifier.isPrivate(field.getModifiers()));
        }
        for (Method method : face.getDeclaredMethods()) {
            boolean isPrivate = Modifier.isPrivate(method.getModifiers());
            Due.same("a public name for " + method, "" + !isPrivate, "" + publicNames.contains(method.getName()));
        }
        for (Class<?> inside : face.getDeclaredClasses()) {
            int modifiers = inside.getModifiers();
            Due.same(inside + " is static and not seen", "true",
                    "" + (Modifier.isStatic(modifiers) && !Modifier.isPublic(modifiers) && !Modifier.isProtected(modifiers)));
        }
    }
}
