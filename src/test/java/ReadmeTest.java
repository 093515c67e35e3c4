import java.io.IOException;
import java.lang.reflect.Method;
import java.nio.file.Files;
import java.nio.file.Path;
import java.util.HashSet;
import java.util.Map;
import java.util.Set;
import java.util.TreeMap;
import java.util.regex.Matcher;
import java.util.regex.Pattern;

/** The calls that README.md shows, made one after another: each answers what stands behind it, up to the colon. */
public final class ReadmeTest {
    private static final String NEW_OBJECT = "ColumnIndex x = new ColumnIndex();";
    private static final Pattern CALL = Pattern.compile("x\\.(\\w+)\\((.*?)\\);\\s+// ([^:]+): .+");
    private static final Map<String, Method> FACE = face();
    private static final Due due = new Due();

    private ReadmeTest() {
    }

    public static void main(String[] args) throws IOException, ReflectiveOperationException {
        Set<String> shown = new HashSet<>();
        ColumnIndex x = null;
        for (String line : Files.readAllLines(Path.of("README.md"))) {
            if (line.equals(NEW_OBJECT)) {
                x = new ColumnIndex();
            } else if (line.startsWith("x.")) {
                shown.add(makeCall(x, line));
            }
        }
        due.holds("README.md shows each call of the face: " + shown, shown.equals(FACE.keySet()));
        due.end();
    }

    private static Map<String, Method> face() {
        Map<String, Method> face = new TreeMap<>();
        for (Method method : ColumnIndex.class.getMethods()) {
            if (method.getDeclaringClass() == ColumnIndex.class) {
                face.put(method.getName(), method);
            }
        }
        return face;
    }

    /** The name of the call that the line shows. */
    private static String makeCall(ColumnIndex x, String line) throws ReflectiveOperationException {
        Matcher call = CALL.matcher(line);
        if (!call.matches() || !FACE.containsKey(call.group(1))) {
            due.holds("a call with its answer: " + line, false);
            return "";
        }
        Method method = FACE.get(call.group(1));
        int got = (int) method.invoke(x, arguments(method, call.group(2)));
        due.same("README.md: " + line, got, answer(call.group(3)));
        return method.getName();
    }

    private static Object[] arguments(Method method, String written) {
        Class<?>[] types = method.getParameterTypes();
        String[] parts = written.isEmpty() ? new String[0] : written.split(", ");
        Object[] arguments = new Object[parts.length];
        for (int i = 0; i < parts.length; i++) {
            long number = number(parts[i]);
            arguments[i] = types[i] == long.class ? (Object) number : (Object) (int) number;
        }
        return arguments;
    }

    private static long number(String written) {
        return written.startsWith("'") ? written.charAt(1) : Long.decode(written.replace("L", ""));
    }

    private static int answer(String written) throws ReflectiveOperationException {
        String constants = "ColumnIndex.";
        return written.startsWith(constants)
                ? ColumnIndex.class.getField(written.substring(constants.length())).getInt(null)
                : Integer.parseInt(written);
    }
}
