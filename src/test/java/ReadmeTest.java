import java.io.IOException;
import java.lang.reflect.InvocationTargetException;
import java.lang.reflect.Method;
import java.lang.reflect.Modifier;
import java.nio.file.Files;
import java.nio.file.Path;
import java.util.regex.Matcher;
import java.util.regex.Pattern;

/** What README.md says of calls holds: each answers what stands behind it, in that order, and none is left unnamed. */
public final class ReadmeTest {
    private static final Pattern CALL = Pattern.compile("hall\\.(\\w+)\\((.*)\\); +// (throws \\w+|[^:]+)(: .*)?");

    private ReadmeTest() {
    }

    public static void main(String[] args) throws IOException {
        String page = Files.readString(Path.of("README.md"));
        int from = page.indexOf("```java\n");
        Due.is("a block of calls", from >= 0, true);
        String block = page.substring(from + 8, page.indexOf("```\n", from + 8));
        Due.is("answered calls", answeredCalls(block) > 60, true);
        everyCallNamed(page);
        everyTestNamed(page);
        Due.end();
    }

    private static int answeredCalls(String block) {
        Stenohall hall = new Stenohall();
        int calls = 0;
        for (String line : block.split("\n")) {
            Matcher found = CALL.matcher(line);
            if (found.matches()) {
                Due.is(line, answer(hall, found.group(1), found.group(2)), found.group(3));
                calls++;
            } else {
                boolean isOther = line.isEmpty() || line.startsWith("// ") || line.equals("Stenohall hall = new Stenohall();");
                Due.is("a line that is no call: " + line, isOther, true);
            }
        }
        return calls;
    }

    private static String answer(Stenohall hall, String name, String told) {
        String[] parts = told.isEmpty() ? new String[0] : told.split(", ");
        Object[] values = new Object[parts.length];
        for (int i = 0; i < parts.length; i++) {
            values[i] = value(parts[i]);
        }
        for (Method m : Stenohall.class.getDeclaredMethods()) {
            if (m.getName().equals(name) && m.getParameterCount() == values.length) {
                return invoked(m, hall, values);
            }
        }
        return "no such call";
    }

    private static String invoked(Method m, Stenohall hall, Object[] values) {
        try {
            Object got = m.invoke(hall, values);
            return got instanceof Character ? "'" + got + "'" : String.valueOf(got);
        } catch (InvocationTargetException e) {
            return "throws " + e.getCause().getClass().getSimpleName();
        } catch (IllegalAccessException e) {
            return "not to be called";
        }
    }

    private static Object value(String part) {
        if (part.startsWith("'")) {
            return part.charAt(1);
        }
        return part.equals("true") || part.equals("false") ? (Object) Boolean.valueOf(part) : (Object) Integer.valueOf(part);
    }

    private static void everyCallNamed(String page) {
        for (Method m : Stenohall.class.getDeclaredMethods()) {
            if (Modifier.isPublic(m.getModifiers())) {
                Due.is(m.getName() + " is named", page.contains("`" + m.getName() + "`"), true);
            }
        }
    }

    private static void everyTestNamed(String page) throws IOException {
        try (java.util.stream.Stream<Path> files = Files.list(Path.of("src/test/java"))) {
            for (Path file : (Iterable<Path>) files::iterator) {
                String name = file.getFileName().toString().replace(".java", "");
                Due.is(name + " is named", !name.endsWith("Test") || page.contains("`" + name + "`"), true);
            }
        }
    }
}
