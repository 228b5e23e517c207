import java.io.IOException;
import java.nio.file.Files;
import java.nio.file.Path;
import java.util.ArrayList;
import java.util.Arrays;
import java.util.List;
import java.util.Set;
import java.util.TreeSet;
import java.util.regex.MatchResult;
import java.util.regex.Pattern;

/** What README.md says of calls, answers and tests holds. */
public final class ReadmeTest {
    private static final Path PAGE = Path.of("README.md");
    private static final String TESTS = "src/test/java";
    /** For each call that is an order: a state in which this call is possible. */
    private static final String[][] POSSIBLE = {{"", "sign 2 1"}, {"", "stock 3 4 5"},
        {"sign 1 0 | stock 3 9 5", "sell 0 3 2"}, {"sign 1 0 | days 9", "advance 0 8"}, {"sign 1 0", "fine 0 7"},
        {"sign 1 0", "days 6"}, {"sign 1 1", "leave 1"}, {"sign 1 0 | leave 0", "back 0 5"}, {"", "sail"},
        {"sail", "port"}, {"sign 1 0 | days 4", "payOff"}};

    public static void main(String[] args) throws IOException {
        String page = Files.readString(PAGE);
        examples(page);
        constants(page);
        calls(page);
        orders(page);
        tests(page);
        Due.end("ReadmeTest");
    }

    private static List<MatchResult> found(String page, String pattern) {
        return Pattern.compile(pattern).matcher(page).results().toList();
    }

    private static void examples(String page) {
        List<MatchResult> blocks = found(page, "(?s)```java\n(.*?)\n```");
        Due.is("examples", blocks.size(), 2);
        for (MatchResult block : blocks) {
            Example example = new Example();
            for (String line : block.group(1).split("\n")) {
                example.carryOut(line);
            }
        }
    }

    private static void constants(String page) {
        StringBuilder told = new StringBuilder();
        for (MatchResult row : found(page, "\n\\| `([A-Z_]+)` \\| (-\\d+) \\|")) {
            told.append(row.group(1)).append(" = ").append(row.group(2)).append(";\n");
        }
        Due.same("the constants, the first one ahead", told.toString(), "INVALID_ARGUMENT = " + Due.INVALID
                + ";\nNOT_POSSIBLE = " + Due.NOT_POSSIBLE + ";\nLIMIT_REACHED = " + Due.LIMIT + ";\nNOT_FOUND = "
                + Due.NOT_FOUND + ";\n");
    }

    private static void calls(String page) throws IOException {
        List<String> told = new ArrayList<>();
        for (MatchResult row : found(page, "\n\\| `(\\w+)(\\(.*\\))` \\| (.+) \\| (.*) ?\\|")) {
            told.add(row.group(1) + row.group(2));
            Set<String> errors = new TreeSet<>();
            for (MatchResult error : found(row.group(4), "[A-Z_]{5,}")) {
                errors.add(error.group());
            }
            Due.same("errors of " + row.group(1), errors.toString(), Document.errorsOf(row.group(1)).toString());
        }
        Due.same("the calls", String.join("\n", told), String.join("\n", Document.calls()));
    }

    private static void orders(String page) throws IOException {
        List<MatchResult> rows = found(page, "\n\\| `([a-z])` (.*)`;` \\| `(\\w+)` \\|");
        Due.is("orders", rows.size(), POSSIBLE.length);
        for (int k = 0; k < rows.size() && k < POSSIBLE.length; k++) {
            String call = rows.get(k).group(3);
            String numbers = rows.get(k).group(2).strip().replace(" `,` ", ", ");
            Due.is("numbers of " + call, Document.calls().contains(call + "(" + numbers + ")") ? 1 : 0, 1);
            doesTheSame(rows.get(k).group(1), call);
        }
    }

    private static void doesTheSame(String letter, String call) {
        for (String[] possible : POSSIBLE) {
            String[] words = possible[1].split(" ");
            if (words[0].equals(call)) {
                String before = possible[0].isEmpty() ? "" : possible[0] + " | ";
                String order = letter + String.join(",", Arrays.copyOfRange(words, 1, words.length)) + ";";
                Due.same(order, Asked.after(before + "write " + order + " | play | clearText").told(),
                        Asked.after(before + possible[1]).told());
                return;
            }
        }
        Due.same("an order that is not known", call, "");
    }

    private static void tests(String page) throws IOException {
        Set<String> told = new TreeSet<>();
        for (MatchResult row : found(page, "\n\\| `(\\w+Test)` \\|")) {
            told.add(row.group(1));
        }
        Set<String> due = new TreeSet<>();
        try (var files = Files.list(Path.of(TESTS))) {
            files.map(file -> file.getFileName().toString()).filter(name -> name.endsWith("Test.java"))
                    .forEach(name -> due.add(name.replace(".java", "")));
        }
        Due.same("the tests", String.join("\n", told), String.join("\n", due));
    }
}
