import java.io.IOException;
import java.lang.reflect.InvocationTargetException;
import java.lang.reflect.Method;
import java.nio.file.Files;
import java.nio.file.Path;
import java.util.HashMap;
import java.util.Map;
import java.util.regex.Matcher;
import java.util.regex.Pattern;

/** README.md: what its example answers, and that every call of the document stands in it. */
final class ReadmeTest {
    private static final Path README = Path.of("README.md");
    private static final String BEGIN = "PartBook book = new PartBook();";
    /** A call, its name and arguments, and in the comment behind it what it answers or throws. */
    private static final Pattern LINE = Pattern.compile(
            "(?:int (\\w+) = )?book\\.(\\w+)\\((.*?)\\);\\s+// ((?:throws )?[\\w-]+)\\b.*");

    private final PartBook book = new PartBook();
    private final Map<String, Long> variables = new HashMap<>();

    public static void main(String[] args) throws IOException, IllegalAccessException {
        new ReadmeTest().theExample();
        theCalls();
        Check.end();
    }

    private void theExample() throws IOException, IllegalAccessException {
        for (String line : Face.javaOf(README)) {
            Matcher found = LINE.matcher(line);
            if (found.matches()) {
                String got = answer(methodOf(found.group(2)), found.group(3));
                Check.same(line, got, found.group(4).replace("NONE", "-1"));
                if (found.group(1) != null) {
                    variables.put(found.group(1), Long.valueOf(got));
                }
            } else {
                Check.is("an answer is told: " + line, line.isEmpty() || line.equals(BEGIN));
            }
        }
        Check.is("the example has its variables", variables.size() > 0);
    }

    private static Method methodOf(String name) {
        for (Method method : PartBook.class.getMethods()) {
            if (method.getName().equals(name)) {
                return method;
            }
        }
        throw new IllegalArgumentException("README.md calls " + name + ", which is not there");
    }

    private String answer(Method method, String texts) throws IllegalAccessException {
        String[] arguments = texts.isEmpty() ? new String[0] : texts.split(", ");
        Class<?>[] types = method.getParameterTypes();
        Object[] given = new Object[arguments.length];
        for (int i = 0; i < given.length; i++) {
            long number = numberOf(arguments[i]);
            given[i] = types[i] == int.class ? (Object) (int) number : (Object) number;
        }
        try {
            return String.valueOf(method.invoke(book, given));
        } catch (InvocationTargetException e) {
            return "throws " + e.getCause().getClass().getSimpleName();
        }
    }

    private long numberOf(String text) {
        Long variable = variables.get(text);
        return variable == null ? Long.parseLong(text) : variable;
    }

    private static void theCalls() throws IOException {
        String page = Files.readString(README);
        for (Face.Call call : Face.calls()) {
            Check.is(call.used() + " stands in the table", page.contains("| `" + call.used() + "` |"));
            Check.is(call.name() + " stands in the example", page.contains("book." + call.name() + "("));
        }
    }
}
