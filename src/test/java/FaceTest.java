import java.lang.reflect.Constructor;
import java.lang.reflect.Field;
import java.lang.reflect.Method;
import java.lang.reflect.Modifier;
import java.util.Arrays;
import java.util.TreeSet;

/** The public face: just what the document has, and no other member that is not private. */
public final class FaceTest {
    private static final String[] FACE = {
        "BarrierCache(int, int)",
        "int NONE",
        "int read(int) IllegalStateException IllegalArgumentException",
        "int write(int, int) IllegalStateException IllegalArgumentException",
        "int force(int, int) IllegalStateException IllegalArgumentException",
        "int flush() IllegalStateException",
        "int barrier() IllegalStateException",
        "boolean pin(int, boolean) IllegalStateException IllegalArgumentException",
        "boolean drop(int) IllegalStateException IllegalArgumentException",
        "int order(int) IllegalArgumentException",
        "int rank(int, int) IllegalArgumentException",
        "void limits(int, int) IllegalArgumentException",
        "void cut(int) IllegalArgumentException",
        "boolean power()",
        "int disk(int) IllegalArgumentException",
        "int find(int) IllegalArgumentException",
        "int slot(int, int) IllegalArgumentException",
        "int written(int)",
        "int total(int) IllegalArgumentException"};

    public static void main(String[] args) {
        Class<BarrierCache> c = BarrierCache.class;
        TreeSet<String> found = new TreeSet<>();
        for (Constructor<?> m : c.getDeclaredConstructors()) {
            if (isOpen(m.getModifiers())) {
                found.add("BarrierCache" + types(m.getParameterTypes(), ", ", "(", ")"));
            }
        }
        for (Field f : c.getDeclaredFields()) {
            if (isOpen(f.getModifiers())) {
                found.add(f.getType().getSimpleName() + " " + f.getName());
            }
        }
        TreeSet<String> publicNames = new TreeSet<>();
        for (Method m : c.getDeclaredMethods()) {
            if (isOpen(m.getModifiers())) {
                publicNames.add(m.getName());
                found.add(m.getReturnType().getSimpleName() + " " + m.getName()
                        + types(m.getParameterTypes(), ", ", "(", ")") + types(m.getExceptionTypes(), "", "", ""));
            }
        }
        for (Method m : c.getDeclaredMethods()) {
            Check.due("a private " + m.getName(), !isOpen(m.getModifiers()) && publicNames.contains(m.getName()), false);
        }
        Check.due("the face", found, new TreeSet<>(Arrays.asList(FACE)));
        Check.due("public and final", Modifier.isPublic(c.getModifiers()) && Modifier.isFinal(c.getModifiers()), true);
        Check.end();
    }

    private static boolean isOpen(int modifiers) {
        return !Modifier.isPrivate(modifiers);
    }

    private static String types(Class<?>[] all, String between, String open, String close) {
        StringBuilder b = new StringBuilder(open);
        for (int i = 0; i < all.length; i++) {
            b.append(between.isEmpty() ? " " : i == 0 ? "" : between).append(all[i].getSimpleName());
        }
        return b.append(close).toString();
    }
}
