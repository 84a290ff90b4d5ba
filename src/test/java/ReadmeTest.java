import java.io.IOException;
import java.lang.reflect.InvocationTargetException;
import java.lang.reflect.Method;
import java.nio.file.Files;
import java.nio.file.Path;
import java.util.ArrayList;
import java.util.List;
import java.util.regex.Matcher;
import java.util.regex.Pattern;

/** What README.md says of the class: the answers of its example, and each call with its arguments and exceptions. */
public final class ReadmeTest {
    private static final Pattern EXAMPLE = Pattern.compile("stores\\.(\\w+)\\((.*?)\\);\\s+// ([^:]+): .*");
    private static final Pattern ROW = Pattern.compile("\\| `(\\w+)\\((.*?)\\)` \\| (.+) \\|(.*)\\|");
    private static final Pattern EXCEPTION = Pattern.compile("`(\\w+Exception)`");
    private static final Checks CHECK = new Checks();

    public static void main(String[] args) throws IOException, IllegalAccessException {
        List<String> lines = Files.readAllLines(Path.of("README.md"));
        example(lines);
        tables(lines);
        bound(String.join(" ", lines));
        CHECK.finish();
    }

    private static void example(List<String> lines) throws IllegalAccessException {
        SiblingJoins stores = new SiblingJoins();
        int shown = 0;
        for (String line : lines) {
            if (line.startsWith("stores.")) {
                Matcher call = EXAMPLE.matcher(line);
                CHECK.tell(call.matches(), "no call with its answer: " + line);
                if (call.matches()) {
                    CHECK.equal(line, call.group(3), answer(stores, call.group(1), call.group(2)));
                }
                shown++;
            }
        }
        CHECK.tell(shown > 0, "README.md shows no example");
    }

    private static String answer(SiblingJoins stores, String name, String arguments) throws IllegalAccessException {
        try {
            return String.valueOf(named(name).invoke(stores, numbers(arguments)));
        } catch (InvocationTargetException e) {
            return e.getCause().getClass().getSimpleName();
        }
    }

    private static Method named(String name) {
        for (Method method : face()) {
            if (method.getName().equals(name)) {
                return method;
            }
        }
        throw new AssertionError("README.md calls " + name + ", which the class does not have");
    }

    private static Object[] numbers(String arguments) {
        List<Object> numbers = new ArrayList<>();
        for (String argument : parts(arguments)) {
            numbers.add(Integer.valueOf(argument));
        }
        return numbers.toArray();
    }

    private static List<String> parts(String arguments) {
        return arguments.isEmpty() ? List.of() : List.of(arguments.split(", "));
    }

    private static List<Method> face() {
        List<Method> face = new ArrayList<>();
        for (Method method : SiblingJoins.class.getMethods()) {
            if (method.getDeclaringClass() == SiblingJoins.class) {
                face.add(method);
            }
        }
        return face;
    }

    private static void tables(List<String> lines) {
        for (Method method : face()) {
            int rows = 0;
            for (String line : lines) {
                Matcher row = ROW.matcher(line);
                if (row.matches() && row.group(1).equals(method.getName())) {
                    rows++;
                    CHECK.equal(line + " arguments", method.getParameterCount(), parts(row.group(2)).size());
                    CHECK.equal(line + " throws", declared(method), told(row.group(4)));
                }
            }
            CHECK.equal("rows of " + method.getName(), 1, rows);
        }
    }

    private static String declared(Method method) {
        List<String> names = new ArrayList<>();
        for (Class<?> thrown : method.getExceptionTypes()) {
            names.add(thrown.getSimpleName());
        }
        return names.toString();
    }

    private static String told(String cell) {
        List<String> names = new ArrayList<>();
        Matcher exception = EXCEPTION.matcher(cell);
        while (exception.find()) {
            names.add(exception.group(1));
        }
        return names.toString();
    }

    private static void bound(String page) {
        CHECK.tell(page.contains("at most 512 calls"), "README.md does not tell of the 512 calls");
        CHECK.tell(page.contains("new SiblingJoins()"), "README.md does not tell how an object is made");
        CHECK.tell(page.contains(".ci/run"), "README.md does not tell how the tests are run");
    }
}
