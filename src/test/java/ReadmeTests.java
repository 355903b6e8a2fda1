import java.lang.reflect.InvocationTargetException;
import java.lang.reflect.Method;
import java.nio.file.Files;
import java.nio.file.Path;
import java.util.List;
import java.util.Set;
import java.util.TreeSet;
import java.util.regex.Matcher;
import java.util.regex.Pattern;

/** README.md is held to its word: each call of its examples answers what stands behind it, and it names every call. */
public final class ReadmeTests {
    private static final Pattern CALL = Pattern.compile("x\\.(\\w+)\\(([^)]*)\\);\\s+// (-?\\d+|[A-Z]+)(:.*)?");
    private static final Pattern TEXT = Pattern.compile("String text = \"(.*)\";");

    private static WorseStile x;
    private static int calls;

    public static void main(String[] args) throws Exception {
        List<String> lines = Files.readAllLines(Path.of("README.md"));
        boolean inside = false;
        for (String line : lines) {
            if (line.startsWith("```")) {
                inside = line.equals("```java");
            } else if (inside) {
                one(line.trim());
            }
        }
        Due.due("README.md has examples", calls >= 20 ? 1 : 0, 1);
        namesEveryCall(String.join("\n", lines));
        Due.end("ReadmeTests");
    }

    private static void one(String line) throws Exception {
        if (line.startsWith("WorseStile x = ")) {
            x = new WorseStile();
        }
        Matcher text = TEXT.matcher(line);
        if (text.matches()) {
            Due.write(x, text.group(1));
        }
        Matcher call = CALL.matcher(line);
        if (call.matches()) {
            calls++;
            Due.due("README.md: " + line, answer(call.group(1), call.group(2)), due(call.group(3)));
        } else {
            Due.due("README.md: read as an answer: " + line, line.contains("// ") ? 1 : 0, 0);
        }
    }

    private static long due(String told) throws Exception {
        return Character.isLetter(told.charAt(0)) ? WorseStile.class.getField(told).getInt(null) : Long.parseLong(told);
    }

    private static long answer(String name, String told) throws IllegalAccessException, InvocationTargetException {
        String[] parts = told.isEmpty() ? new String[0] : told.split(", ");
        for (Method method : WorseStile.class.getMethods()) {
            Class<?>[] types = method.getParameterTypes();
            if (method.getName().equals(name) && types.length == parts.length) {
                Object[] values = new Object[parts.length];
                for (int i = 0; i < parts.length; i++) {
                    values[i] = value(parts[i], types[i]);
                }
                return ((Number) method.invoke(x, values)).longValue();
            }
        }
        throw new IllegalStateException("no call " + name + " with " + parts.length);
    }

    private static Object value(String part, Class<?> type) {
        if (type == boolean.class) {
            return Boolean.valueOf(part);
        }
        return part.equals("WorseStile.NONE") ? Integer.valueOf(WorseStile.NONE) : Integer.valueOf(part);
    }

    private static void namesEveryCall(String readme) {
        Set<String> missing = new TreeSet<>();
        for (Method method : WorseStile.class.getDeclaredMethods()) {
            boolean isCall = java.lang.reflect.Modifier.isPublic(method.getModifiers());
            if (isCall && !readme.contains("`" + method.getName() + "(")) {
                missing.add(method.getName());
            }
        }
        Due.due("calls that README.md does not name: " + missing, missing.size(), 0);
    }
}
