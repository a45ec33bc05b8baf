import java.lang.reflect.Constructor;
import java.lang.reflect.Field;
import java.lang.reflect.Method;
import java.lang.reflect.Modifier;
import java.util.Arrays;
import java.util.Set;
import java.util.TreeSet;

/** The class has the document's public face, and beside it private members alone. */
public final class FaceTest {
    private static final String[] CONSTANTS = {
        "BAD -1", "OFF -2", "OLD -3", "TAG -4", "LACKS -5", "WRONG -6", "NONE -7", "FULL -8"};
    private static final String[] METHODS = {
        "type [long, int]", "factory [int]", "manifest []", "block [int]", "install []", "boot []",
        "confirm []", "crash [int, int]", "running []", "counter []", "acts []", "byteOf [int]", "good [int]"};

    public static void main(String[] args) throws Exception {
        Class<?> face = FlashBoot.class;
        is("class", "public final", Modifier.toString(face.getModifiers()));
        is("constants", Arrays.asList(CONSTANTS), constants(face));
        is("methods", Arrays.asList(METHODS), methods(face));
        constructors(face);
        Due.end();
    }

    private static void is(String what, Iterable<String> want, Set<String> got) {
        Set<String> due = new TreeSet<>();
        want.forEach(due::add);
        is(what, due.toString(), got.toString());
    }

    private static void is(String what, String want, String got) {
        Due.is("the face, " + what + " (" + got + ", due is " + want + "): equal", 1, got.equals(want) ? 1 : 0);
    }

    private static Set<String> constants(Class<?> face) throws Exception {
        Set<String> found = new TreeSet<>();
        for (Field field : face.getDeclaredFields()) {
            if (!Modifier.isPrivate(field.getModifiers())) {
                is(field.getName(), "public static final int", Modifier.toString(field.getModifiers()) + " " + field.getType());
                found.add(field.getName() + " " + field.getInt(null));
            }
        }
        return found;
    }

    private static Set<String> methods(Class<?> face) {
        Set<String> found = new TreeSet<>();
        for (Method method : face.getDeclaredMethods()) {
            if (!Modifier.isPrivate(method.getModifiers()) && !method.isSynthetic()) {
                String types = Arrays.toString(method.getParameterTypes());
                is(method.getName(), "public int", Modifier.toString(method.getModifiers()) + " " + method.getReturnType());
                found.add(method.getName() + " " + types);
            }
        }
        return found;
    }

    private static void constructors(Class<?> face) {
        Constructor<?>[] all = face.getDeclaredConstructors();
        Due.is("the face: its constructors", 1, all.length);
        is("constructor", "public [int, int, int]",
            Modifier.toString(all[0].getModifiers()) + " " + Arrays.toString(all[0].getParameterTypes()));
    }
}
