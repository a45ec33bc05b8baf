import java.lang.reflect.Field;
import java.lang.reflect.Method;
import java.lang.reflect.Modifier;
import java.nio.file.Files;
import java.nio.file.Path;
import java.util.regex.Matcher;
import java.util.regex.Pattern;

/** Makes the calls of README.md's example; it is run where README.md is, as .ci/run does. */
public final class ReadmeTest {
    private static final Pattern MAKING = Pattern.compile("new FlashBoot\\((\\d+), (\\d+), (\\d+)\\);");
    private static final Pattern CALL = Pattern.compile("^device\\.(\\w+)\\(([^)]*)\\);\\s*// (\\S+)$");

    public static void main(String[] args) throws Exception {
        String text = Files.readString(Path.of("README.md"));
        example(text);
        namesAll(text);
        Due.end();
    }

    private static void example(String text) throws Exception {
        Matcher making = MAKING.matcher(text);
        Due.is("README.md makes a device", 1, making.find() ? 1 : 0);
        FlashBoot device = new FlashBoot(number(making, 1), number(making, 2), number(making, 3));
        int calls = 0;
        for (String line : text.split("\n")) {
            Matcher call = CALL.matcher(line);
            if (call.find()) {
                calls++;
                Due.is("README.md: " + line, answer(call.group(3)), made(device, call.group(1), call.group(2)));
            } else {
                Due.is("README.md: a call without its answer: " + line, 0, line.startsWith("device.") ? 1 : 0);
            }
        }
        Due.is("README.md has calls", 1, calls > 0 ? 1 : 0);
    }

    private static int number(Matcher matcher, int group) {
        return Integer.parseInt(matcher.group(group));
    }

    private static int answer(String told) throws Exception {
        return Character.isLetter(told.charAt(0))
            ? FlashBoot.class.getField(told).getInt(null) : Integer.parseInt(told);
    }

    private static int made(FlashBoot device, String name, String told) throws Exception {
        String[] row = told.isEmpty() ? new String[0] : told.split(", ");
        for (Method method : FlashBoot.class.getMethods()) {
            if (method.getName().equals(name) && method.getParameterCount() == row.length) {
                return (int) method.invoke(device, arguments(method.getParameterTypes(), row));
            }
        }
        throw new IllegalStateException("no such call: " + name);
    }

    private static Object[] arguments(Class<?>[] types, String[] row) {
        Object[] arguments = new Object[row.length];
        for (int i = 0; i < row.length; i++) {
            long value = Long.decode(row[i].replace("L", ""));
            if (types[i] == long.class) {
                arguments[i] = value;
            } else {
                arguments[i] = (int) value;
            }
        }
        return arguments;
    }

    /** Every call and every answer of the face is told. */
    private static void namesAll(String text) {
        for (Method method : FlashBoot.class.getDeclaredMethods()) {
            if (Modifier.isPublic(method.getModifiers())) {
                isTold(text, "`" + method.getName() + "(");
            }
        }
        for (Field field : FlashBoot.class.getFields()) {
            isTold(text, "| `" + field.getName() + "` |");
        }
    }

    private static void isTold(String text, String what) {
        Due.is("README.md tells of " + what, 1, text.contains(what) ? 1 : 0);
    }
}
