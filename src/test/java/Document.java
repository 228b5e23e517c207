import java.io.IOException;
import java.nio.file.Files;
import java.nio.file.Path;
import java.util.ArrayList;
import java.util.List;
import java.util.Set;
import java.util.TreeSet;
import java.util.regex.Matcher;
import java.util.regex.Pattern;

/** What the document says of the public face: its lines, and what stands ahead of them. */
final class Document {
    private static final Path PLACE = Path.of("../shared/DOC.md");
    private static final Pattern BLOCK = Pattern.compile("(?s)```java\n(.*?)```");
    private static final Pattern CALL = Pattern.compile("public int (\\w+)\\((.*)\\);");
    private static final Pattern ERROR = Pattern.compile("INVALID_ARGUMENT|NOT_POSSIBLE|LIMIT_REACHED|NOT_FOUND");
    private static final Pattern HEADING = Pattern.compile("Ahead of the calls (.*) the interface says: (---- .*)\\.");

    private Document() {
    }

    /** The lines between the braces of the class, without the spaces ahead of them. */
    static List<String> faceLines() throws IOException {
        Matcher block = BLOCK.matcher(Files.readString(PLACE));
        List<String> lines = new ArrayList<>();
        if (block.find()) {
            for (String line : block.group(1).split("\n")) {
                if (line.startsWith("    ")) {
                    lines.add(line.strip());
                }
            }
        }
        return lines;
    }

    /** "sign(rank, watch)" and so on, in the document's order. */
    static List<String> calls() throws IOException {
        List<String> calls = new ArrayList<>();
        for (String line : faceLines()) {
            Matcher call = CALL.matcher(line);
            if (call.matches()) {
                calls.add(call.group(1) + "(" + call.group(2).replace("int ", "") + ")");
            }
        }
        return calls;
    }

    /** The names of the error codes that the promise of this call holds. */
    static Set<String> errorsOf(String call) throws IOException {
        Set<String> errors = new TreeSet<>();
        Matcher promise = Pattern.compile("(?s)## Promise \\d+: " + call + "\n(.*?)\n## ").matcher(Files.readString(PLACE));
        if (promise.find()) {
            Matcher error = ERROR.matcher(promise.group(1));
            while (error.find()) {
                errors.add(error.group());
            }
        }
        return errors;
    }

    static Set<Integer> errorNumbersOf(String call) throws IOException {
        Set<Integer> numbers = new TreeSet<>();
        for (String error : errorsOf(call)) {
            numbers.add(Due.CONSTANTS.get(error));
        }
        return numbers;
    }

    /** "---- the ship: leave, back" and so on, in the document's order. */
    static List<String> headings() throws IOException {
        List<String> headings = new ArrayList<>();
        Matcher heading = HEADING.matcher(Files.readString(PLACE));
        while (heading.find()) {
            headings.add(heading.group(2) + ": " + heading.group(1).replace("`", ""));
        }
        return headings;
    }
}
