import java.io.IOException;
import java.lang.reflect.InvocationTargetException;
import java.lang.reflect.Method;
import java.nio.file.Files;
import java.nio.file.Path;
import java.util.regex.Matcher;
import java.util.regex.Pattern;

/** The example of README.md is run as it stands there, and answers what its comments say. */
public final class ReadmeTest {
    private static final Pattern CALL = Pattern.compile("x\\.(\\w+)\\((.*?)\\);\\s*(?://\\s*(.*))?");
    private static final Pattern TOLD = Pattern.compile("(-?\\d+|throws \\w+)\\b.*");

    public static void main(String[] args) throws IOException {
        String text = Files.readString(Path.of("README.md"));
        int from = text.indexOf("```java\n");
        int to = text.indexOf("\n```\n", from + 1);
        if (from < 0 || to < 0) {
            throw new IllegalStateException("README.md has no example");
        }
        SquareStream x = null;
        for (String line : text.substring(from, to).split("\n")) {
            if (line.startsWith("SquareStream x = new SquareStream();")) {
                x = new SquareStream();
            } else if (!line.startsWith("```") && !line.isBlank()) {
                run(x, line);
            }
        }
        Check.end("ReadmeTest");
    }

    private static void run(SquareStream x, String line) {
        Matcher call = CALL.matcher(line);
        if (!call.matches()) {
            throw new IllegalStateException("not a call: " + line);
        }
        String got = answer(x, call.group(1), call.group(2));
        Matcher told = TOLD.matcher(call.group(3) == null ? "" : call.group(3));
        if (told.matches()) {
            Check.same(line, told.group(1), got);
        } else {
            Check.same(line + " is not refused", "false", Boolean.toString(got.startsWith("throws ")));
        }
    }

    private static String answer(SquareStream x, String name, String written) {
        Method method = methodNamed(name);
        try {
            return String.valueOf(method.invoke(x, values(written)));
        } catch (InvocationTargetException e) {
            return "throws " + e.getCause().getClass().getSimpleName();
        } catch (IllegalAccessException e) {
            throw new IllegalStateException(e);
        }
    }

    private static Method methodNamed(String name) {
        for (Method m : SquareStream.class.getMethods()) {
            if (m.getName().equals(name)) {
                return m;
            }
        }
        throw new IllegalStateException("no method " + name);
    }

    private static Object[] values(String written) {
        String[] each = written.split(", ");
        Object[] values = new Object[each.length];
        for (int i = 0; i < each.length; i++) {
            boolean isTruth = each[i].equals("true") || each[i].equals("false");
            values[i] = isTruth ? (Object) Boolean.valueOf(each[i]) : (Object) Integer.valueOf(each[i]);
        }
        return values;
    }
}
