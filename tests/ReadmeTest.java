import java.io.IOException;
import java.lang.reflect.InvocationTargetException;
import java.lang.reflect.Method;
import java.nio.file.Files;
import java.nio.file.Path;
import java.util.regex.Matcher;
import java.util.regex.Pattern;

/** Makes the calls of README.md on one object, and compares the answers that stand behind them. */
public final class ReadmeTest extends Checks {
    private static final Pattern CALL =
            Pattern.compile("house\\.(\\w+)\\((.*)\\);(?: *// (throws \\w+|-?\\d+|true|false).*)?");

    private static Object value(String told, Class<?> type) {
        if (type == boolean.class) {
            return Boolean.valueOf(told);
        }
        if (type == long.class) {
            return Long.decode(told.substring(0, told.length() - 1));
        }
        return told.equals("Seattable.NONE") ? NONE : Integer.parseInt(told);
    }

    private static String answer(Seattable house, String name, String told) throws IllegalAccessException {
        for (Method method : Seattable.class.getMethods()) {
            if (method.getName().equals(name) && method.getDeclaringClass() == Seattable.class) {
                String[] parts = told.isEmpty() ? new String[0] : told.split(", ");
                Object[] arguments = new Object[parts.length];
                for (int i = 0; i < parts.length; i++) {
                    arguments[i] = value(parts[i], method.getParameterTypes()[i]);
                }
                try {
                    return "" + method.invoke(house, arguments);
                } catch (InvocationTargetException e) {
                    return "throws " + e.getCause().getClass().getSimpleName();
                }
            }
        }
        return "no such method";
    }

    public static void main(String[] args) throws IOException, IllegalAccessException {
        Seattable house = new Seattable();
        int calls = 0;
        for (String line : Files.readAllLines(Path.of("README.md"))) {
            Matcher matcher = CALL.matcher(line);
            if (matcher.matches()) {
                calls++;
                says("README.md: " + line);
                is("" + matcher.group(3), answer(house, matcher.group(1), matcher.group(2)));
            } else {
                says("README.md: a call that is not understood: " + line);
                is(false, line.startsWith("house."));
            }
        }
        says("README.md tells calls");
        is(true, calls > 60 && calls <= 512);
        finish("ReadmeTest");
    }
}
