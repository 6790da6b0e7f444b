import java.io.IOException;
import java.lang.reflect.InvocationTargetException;
import java.lang.reflect.Method;
import java.lang.reflect.Modifier;
import java.nio.file.Files;
import java.nio.file.Path;
import java.util.ArrayList;
import java.util.List;
import java.util.TreeSet;
import java.util.regex.Matcher;
import java.util.regex.Pattern;

/** README.md: its rows are calls on one cabinet, each with the answer that stands behind it. */
final class ReadmeTests {
    private static final Pattern ROW = Pattern.compile(
            "cabinet\\.(\\w+)\\(([^)]*)\\); +// (throws \\w+|true|false|-?\\d+(\\.\\d+)?)\\b.*");

    private ReadmeTests() {
    }

    static void addTo(Checks checks) {
        checks.test("README.md: each row answers what it says", ReadmeTests::rows);
        checks.test("README.md: each method has a row", ReadmeTests::methods);
    }

    private static void rows(Checks c) {
        KeyCabinet cabinet = new KeyCabinet();
        for (String line : lines()) {
            Matcher row = ROW.matcher(line);
            c.same("the form of " + line, row.matches(), true);
            if (row.matches()) {
                Object answer = Checks.outcome(() -> call(cabinet, row.group(1), row.group(2)));
                c.same(line, String.valueOf(answer), row.group(3));
            }
        }
    }

    private static void methods(Checks c) {
        TreeSet<String> left = new TreeSet<>();
        for (Method method : KeyCabinet.class.getDeclaredMethods()) {
            if (Modifier.isPublic(method.getModifiers())) {
                left.add(method.getName());
            }
        }
        c.same("the number of methods", left.size(), 31);
        for (String line : lines()) {
            left.remove(line.substring(line.indexOf('.') + 1, line.indexOf('(')));
        }
        c.same("methods without a row", left, new TreeSet<String>());
    }

    private static Object call(KeyCabinet cabinet, String name, String arguments) {
        Object[] values = values(arguments);
        Class<?>[] kinds = new Class<?>[values.length];
        java.util.Arrays.fill(kinds, int.class);
        try {
            return KeyCabinet.class.getMethod(name, kinds).invoke(cabinet, values);
        } catch (InvocationTargetException e) {
            throw (RuntimeException) e.getCause();
        } catch (NoSuchMethodException | IllegalAccessException e) {
            return "no such method";
        }
    }

    private static Object[] values(String arguments) {
        if (arguments.isEmpty()) {
            return new Object[0];
        }
        String[] parts = arguments.split(", ");
        Object[] values = new Object[parts.length];
        for (int n = 0; n < parts.length; n++) {
            boolean binary = parts[n].startsWith("0b");
            values[n] = binary ? Integer.parseInt(parts[n].substring(2), 2)
                    : Integer.parseInt(parts[n]);
        }
        return values;
    }

    private static List<String> lines() {
        List<String> found = new ArrayList<>();
        try {
            for (String line : Files.readAllLines(Path.of("README.md"))) {
                if (line.startsWith("cabinet.")) {
                    found.add(line);
                }
            }
        } catch (IOException e) {
            found.clear();
        }
        return found;
    }
}
