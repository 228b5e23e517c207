import java.util.Map;

/** Counts answers that are not as due, and ends a test with them. */
final class Due {
    static final int INVALID = -1000001;
    static final int NOT_POSSIBLE = -1000002;
    static final int LIMIT = -1000003;
    static final int NOT_FOUND = -1000004;
    static final Map<String, Integer> CONSTANTS = Map.of("INVALID_ARGUMENT", INVALID, "NOT_POSSIBLE", NOT_POSSIBLE,
            "LIMIT_REACHED", LIMIT, "NOT_FOUND", NOT_FOUND);

    private static String sentence = "";
    private static int sentences = 0;
    private static int asked = 0;
    private static int wrong = 0;

    private Due() {
    }

    /** What the document says, which the answers from here on are due to. */
    static void sentence(String words) {
        sentence = "[" + words + "] ";
        sentences++;
    }

    static void is(String call, long got, long want) {
        asked++;
        if (got != want) {
            wrong++;
            if (wrong <= 50) {
                System.out.println(sentence + call + " answered " + got + ", due is " + want);
            }
        }
    }

    static void same(String what, String got, String want) {
        asked++;
        if (!got.equals(want)) {
            wrong++;
            if (wrong <= 50) {
                System.out.println(sentence + what + ": something else is told than is due");
                printDifference(got.split("\n"), want.split("\n"));
            }
        }
    }

    private static void printDifference(String[] got, String[] want) {
        for (int k = 0; k < got.length || k < want.length; k++) {
            String one = k < got.length ? got[k] : "nothing";
            String other = k < want.length ? want[k] : "nothing";
            if (!one.equals(other)) {
                System.out.println("  " + one + ", due: " + other);
            }
        }
    }

    static void end(String test) {
        System.out.println(test + ": " + (sentences > 0 ? sentences + " sentences, " : "") + asked + " answers, " + wrong
                + " not as due");
        if (wrong != 0) {
            System.exit(1);
        }
    }
}
