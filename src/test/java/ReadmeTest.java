import java.io.IOException;
import java.lang.reflect.Method;
import java.nio.file.Files;
import java.nio.file.Path;
import java.util.List;
import java.util.regex.Matcher;
import java.util.regex.Pattern;

/** README.md tells each call with what it may answer, and the calls at its top answer as it says. */
public final class ReadmeTest {
    private static final Pattern EXAMPLE = Pattern.compile("x\\.(\\w+)\\(([^)]*)\\);\\s+// (-?\\d+): .*");
    private static final Pattern ROW = Pattern.compile("\\| `(\\w+)\\(([^)]*)\\)` \\| [^|]+ \\| ([^|]+) \\|");
    private static final String[] NAMES = {"UNKNOWN", "OUTSIDE", "STATE", "FULL", "NONE"};

    public static void main(String[] args) throws IOException, ReflectiveOperationException {
        List<String> page = Files.readAllLines(Path.of("README.md"));
        examples(page);
        rows(page);
        tests(page);
        Due.end();
    }

    private static void examples(List<String> page) throws ReflectiveOperationException {
        BoxcarHouses x = new BoxcarHouses();
        int many = 0;
        for (String line : page) {
            Matcher m = EXAMPLE.matcher(line);
            if (m.matches()) {
                many++;
                Method call = callOf(m.group(1));
                Due.is("README: " + line, ((Number) call.invoke(x, arguments(call, m.group(2)))).longValue(), Long.parseLong(m.group(3)));
            } else {
                Due.truth("README: an example that can be read: " + line, !line.startsWith("x."));
            }
        }
        Due.truth("README has examples", many > 10);
    }

    private static Method callOf(String name) {
        for (Method m : BoxcarHouses.class.getMethods()) {
            if (m.getName().equals(name) && m.getDeclaringClass() == BoxcarHouses.class) {
                return m;
            }
        }
        throw new IllegalStateException("README tells of a call that is not there: " + name);
    }

    private static Object[] arguments(Method call, String told) {
        String[] parts = told.isEmpty() ? new String[0] : told.split(", ");
        Object[] with = new Object[parts.length];
        for (int i = 0; i < parts.length; i++) {
            Class<?> kind = call.getParameterTypes()[i];
            with[i] = kind == boolean.class ? (Object) parts[i].equals("true")
                : kind == long.class ? (Object) Long.decode(parts[i].replace("L", "")) : Integer.decode(parts[i]);
        }
        return with;
    }

    /** Each row of a call names just the refusals (and NONE) that the document names for it, in its order. */
    private static void rows(List<String> page) {
        int many = 0;
        for (String line : page) {
            Matcher m = ROW.matcher(line);
            if (m.matches()) {
                many++;
                String call = ReadingTest.rowOf(m.group(1));
                int numbers = m.group(2).isEmpty() ? 0 : m.group(2).split(", ").length;
                Due.is("README: numbers of " + m.group(1), numbers, callOf(m.group(1)).getParameterCount());
                String named = call.substring(call.indexOf('|') + 2);
                Due.truth("README: " + line + " names " + named, named.equals(namesIn(m.group(3))));
            }
        }
        Due.is("README tells of every call", many, 42);
    }

    private static String namesIn(String told) {
        StringBuilder names = new StringBuilder();
        for (String name : NAMES) {
            if (told.contains(name)) {
                names.append(names.length() == 0 ? "" : " ").append(name);
            }
        }
        return names.toString();
    }

    private static void tests(List<String> page) {
        String all = String.join("\n", page);
        for (String name : new java.io.File("src/test/java").list()) {
            Due.truth("README names " + name, all.contains("`" + name.replace(".java", "") + "`"));
        }
    }
}
