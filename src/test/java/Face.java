import java.io.IOException;
import java.nio.file.Files;
import java.nio.file.Path;
import java.util.ArrayList;
import java.util.List;
import java.util.regex.Matcher;
import java.util.regex.Pattern;

/** The public face, as the document tells it. */
final class Face {
    private static final Path DOCUMENT = Path.of("..", "shared", "DOC.md");
    private static final Pattern CALL = Pattern.compile("public (\\w+) (\\w+)\\((.*)\\)( throws .*)?;");
    private static final Pattern CONSTANT = Pattern.compile("public static final (\\w+ \\w+ = .*);");

    /** One call: its types stand as the compiled class tells them, its names as the document does. */
    record Call(String answer, String name, List<String> types, List<String> names, String thrown) {
        String told() {
            return answer + " " + name + "(" + String.join(", ", types) + ")" + thrown;
        }

        String used() {
            return name + "(" + String.join(", ", names) + ")";
        }
    }

    private Face() {
    }

    static List<Call> calls() throws IOException {
        List<Call> calls = new ArrayList<>();
        for (String line : javaOf(DOCUMENT)) {
            Matcher found = CALL.matcher(line.strip());
            if (found.matches()) {
                calls.add(callOf(found));
            }
        }
        return calls;
    }

    private static Call callOf(Matcher found) {
        List<String> types = new ArrayList<>();
        List<String> names = new ArrayList<>();
        for (String parameter : found.group(3).split(", ")) {
            String[] words = parameter.split(" ");
            if (words.length == 2) {
                types.add(words[0]);
                names.add(words[1]);
            }
        }
        String thrown = found.group(4) == null ? "" : found.group(4);
        return new Call(found.group(1), found.group(2), types, names, thrown);
    }

    /** As "int NONE = -1". */
    static List<String> constants() throws IOException {
        List<String> constants = new ArrayList<>();
        for (String line : javaOf(DOCUMENT)) {
            Matcher found = CONSTANT.matcher(line.strip());
            if (found.matches()) {
                constants.add(found.group(1));
            }
        }
        return constants;
    }

    /** The lines of the first piece of Java in a page. */
    static List<String> javaOf(Path page) throws IOException {
        List<String> lines = Files.readAllLines(page);
        int begin = lines.indexOf("```java") + 1;
        List<String> rest = lines.subList(begin, lines.size());
        int end = rest.indexOf("```");
        return rest.subList(0, Math.max(end, 0));
    }
}
