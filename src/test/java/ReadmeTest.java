import java.io.IOException;
import java.lang.reflect.InvocationTargetException;
import java.lang.reflect.Method;
import java.nio.file.Files;
import java.nio.file.Path;
import java.util.List;
import java.util.regex.Matcher;
import java.util.regex.Pattern;

/** README.md's example answers what README.md says; its face lists every method. */
public final class ReadmeTest {
    private static final Pattern NEW = Pattern.compile("ScanRows rows = new ScanRows\\((\\w+)\\);.*");
    private static final Pattern CALL = Pattern.compile("rows\\.(\\w+)\\(([^)]*)\\); *// ([^:]+)(:.*)?");

    public static void main(String[] args) throws IOException {
        List<String> lines = Files.readAllLines(Path.of("README.md"));
        theExampleHolds(lines);
        everyMethodIsListed(lines);
        Check.end();
    }

    private static void theExampleHolds(List<String> lines) {
        Check.says("README.md says how to use the class");
        ScanRows rows = null;
        int calls = 0;
        for (String line : lines) {
            Matcher made = NEW.matcher(line);
            Matcher called = CALL.matcher(line);
            if (made.matches()) {
                rows = new ScanRows(Integer.decode(made.group(1)));
            } else if (called.matches()) {
                Check.due(line, answer(rows, called.group(1), called.group(2)), called.group(3).trim());
                calls++;
            } else if (line.startsWith("rows.")) {
                Check.due("a line that can't be read, " + line + ",", true, false);
            }
        }
        Check.due("some calls are in the example", calls > 0, true);
    }

    private static String answer(ScanRows rows, String name, String written) {
        Method method = methodOf(name);
        String[] texts = written.isEmpty() ? new String[0] : written.split(", *");
        Object[] arguments = new Object[texts.length];
        for (int i = 0; i < texts.length; i++) {
            arguments[i] = read(texts[i], method.getParameterTypes()[i]);
        }
        try {
            Object got = method.invoke(rows, arguments);
            return method.getReturnType() == void.class ? "nothing" : String.valueOf(got);
        } catch (InvocationTargetException e) {
            return "throws " + e.getCause().getClass().getSimpleName();
        } catch (IllegalAccessException e) {
            return "can't be called";
        }
    }

    private static Method methodOf(String name) {
        for (Method method : ScanRows.class.getDeclaredMethods()) {
            if (method.getName().equals(name)) {
                return method;
            }
        }
        throw new IllegalArgumentException("README.md calls " + name);
    }

    private static Object read(String text, Class<?> type) {
        if (type == boolean.class) {
            return Boolean.valueOf(text);
        }
        if (type == long.class) {
            return Long.decode(text);
        }
        return Integer.decode(text);
    }

    private static void everyMethodIsListed(List<String> lines) {
        Check.says("README.md says how to use the class");
        for (Method method : ScanRows.class.getMethods()) {
            if (method.getDeclaringClass() == ScanRows.class) {
                String row = "| `" + method.getName() + "(";
                boolean listed = lines.stream().anyMatch(line -> line.startsWith(row));
                Check.due(method.getName() + " has a row in the table", listed, true);
            }
        }
    }
}
