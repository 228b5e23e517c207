import java.util.HashMap;
import java.util.Map;
import java.util.regex.Matcher;
import java.util.regex.Pattern;

/**
 * A piece of Java as README.md shows it, carried out line by line: an object is
 * made, called with "// 5: words" behind each call, or typed a text into.
 */
final class Example {
    private static final String MADE = "PurserLedgers books = new PurserLedgers();";
    private static final Pattern CALLED = Pattern.compile(
            "(?:int (\\w+) = )?books\\.(\\w+)\\(([\\w, ]*)\\); +// (-?\\d+|[A-Z_]+): .+");
    private static final Pattern TYPED = Pattern.compile(
            "for \\(char sign : \"(.+)\"\\.toCharArray\\(\\)\\) \\{ books\\.type\\(sign\\); \\}");

    private final Map<String, Integer> names = new HashMap<>(Due.CONSTANTS);
    private PurserLedgers books;

    void carryOut(String line) {
        Matcher called = CALLED.matcher(line);
        Matcher typed = TYPED.matcher(line);
        if (line.equals(MADE)) {
            books = new PurserLedgers();
        } else if (books != null && called.matches()) {
            int answer = answerOf(called.group(2), called.group(3));
            Due.is(line, answer, numberOf(called.group(4)));
            names.put(called.group(1), answer);
        } else if (books != null && typed.matches()) {
            for (char sign : typed.group(1).toCharArray()) {
                Due.is(line, books.type(sign) < 0 ? 1 : 0, 0);
            }
        } else {
            Due.same("a line that is not understood", line, "");
        }
    }

    private int answerOf(String call, String list) {
        int[] numbers = new int[3];
        String[] words = list.isEmpty() ? new String[0] : list.split(", ");
        for (int k = 0; k < words.length; k++) {
            numbers[k] = numberOf(words[k]);
        }
        return Calls.ask(books, Calls.numberOf(call), numbers[0], numbers[1], numbers[2]);
    }

    private int numberOf(String word) {
        Integer named = names.get(word);
        return named != null ? named : Integer.parseInt(word);
    }
}
