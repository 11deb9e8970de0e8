import java.io.IOException;
import java.nio.file.Files;
import java.nio.file.Path;
import java.util.Arrays;
import java.util.HashMap;
import java.util.List;
import java.util.Map;
import java.util.Set;
import java.util.regex.MatchResult;
import java.util.regex.Matcher;
import java.util.regex.Pattern;

/**
 * What of LANGUAGE.md can be seen in the text of the class. It allows less than the rules do:
 * no more of the language and the library than the class needs.
 */
final class LanguageTest {
    private static final Path SOURCE = Path.of("src", "main", "java", "PartBook.java");
    private static final Set<String> LIBRARY = Set.of("Math.max", "Math.min", "Arrays.fill");
    private static final Set<String> EXCEPTIONS = Set.of("IndexOutOfBoundsException", "IllegalArgumentException");
    private static final int MOST_LINES = 60;
    private static final int MOST_PARAMETERS = 7;
    private static final int MOST_DEEP = 8;

    private static final Pattern TEXTS = Pattern.compile("(?s)/\\*.*?\\*/|//[^\n]*|\"[^\"\n]*\"");
    private static final Pattern IMPORT = Pattern.compile("(?m)^import (.*);$");
    private static final Pattern NO_WORD = Pattern.compile(
            "->|::|\\b(?:try|catch|finally|assert|synchronized|double|float|var|instanceof)\\b|static \\{");
    private static final Pattern THROW = Pattern.compile("throw new (\\w+)\\(\"\"\\);");
    private static final Pattern OF_LIBRARY = Pattern.compile("\\b(?!Fraction\\b)([A-Z][a-z]\\w*\\.\\w+)\\(");
    private static final Pattern HEADER = Pattern.compile("( +)(?:[\\w\\[\\]]+ )*(\\w+)\\((.*)\\)(?: throws .*)?(?: \\{)?");
    private static final Pattern CALL = Pattern.compile("\\b(\\w+)\\(");

    private final Map<String, String> bodies = new HashMap<>();

    public static void main(String[] args) throws IOException {
        String text = TEXTS.matcher(Files.readString(SOURCE)).replaceAll(LanguageTest::withoutText);
        words(text);
        exceptions(text);
        library(text);
        LanguageTest test = new LanguageTest();
        test.readMethods(text);
        test.callsEnd();
        Check.end();
    }

    private static String withoutText(MatchResult found) {
        return found.group().startsWith("\"") ? "\"\"" : "";
    }

    private static void words(String text) {
        Matcher found = NO_WORD.matcher(text);
        while (found.find()) {
            Check.fault("rules 2, 3, 6: the class has " + found.group());
        }
    }

    private static void exceptions(String text) {
        int written = 0;
        Matcher found = THROW.matcher(text);
        while (found.find()) {
            written++;
            Check.is("rule 6: " + found.group(1), EXCEPTIONS.contains(found.group(1)));
        }
        Check.same("rule 6: throws with a written text", written, text.split("\\bthrow\\b", -1).length - 1);
        Check.is("something is thrown", written > 0);
    }

    private static void library(String text) {
        Matcher imported = IMPORT.matcher(text);
        while (imported.find()) {
            Check.same("rule 4: import", imported.group(1), "java.util.Arrays");
        }
        Matcher found = OF_LIBRARY.matcher(text);
        while (found.find()) {
            Check.is("rule 4: " + found.group(1), LIBRARY.contains(found.group(1)));
        }
    }

    private void readMethods(String text) throws IOException {
        List<String> lines = Arrays.asList(text.split("\n"));
        for (int i = 0; i < lines.size() - 1; i++) {
            Matcher header = HEADER.matcher(lines.get(i));
            boolean open = lines.get(i).endsWith("{") || lines.get(i + 1).strip().startsWith("throws ");
            if (open && header.matches()) {
                readMethod(header, lines.subList(i + 1, lines.size()));
            }
        }
        for (Face.Call call : Face.calls()) {
            Check.is("read: " + call.name(), bodies.containsKey(call.name()));
        }
    }

    /** A method goes from its header to the brace that stands just as far in. */
    private void readMethod(Matcher header, List<String> rest) {
        String name = header.group(2);
        int length = Math.max(rest.indexOf(header.group(1) + "}"), 0);
        Check.is("rule 11: length of " + name, length + 2 <= MOST_LINES);
        Check.is("rule 11: parameters of " + name, header.group(3).split(",").length <= MOST_PARAMETERS);
        String before = bodies.put(name, String.join("\n", rest.subList(0, length)));
        Check.is("a name of its own: " + name, before == null);
    }

    /** No recursion either: it would be deeper than any bound. */
    private void callsEnd() {
        for (String name : bodies.keySet()) {
            Check.is("rules 8, 11: calls of " + name, deep(name, 1) <= MOST_DEEP);
        }
    }

    private int deep(String name, int level) {
        int deepest = level;
        if (level > MOST_DEEP) {
            return deepest;
        }
        Matcher call = CALL.matcher(bodies.getOrDefault(name, ""));
        while (call.find()) {
            deepest = Math.max(deepest, deep(call.group(1), level + 1));
        }
        return deepest;
    }
}
