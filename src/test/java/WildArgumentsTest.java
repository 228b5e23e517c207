import java.io.IOException;
import java.util.Set;

/** Any arguments in any state: every call is answered, with no error but its own ones, which change nothing. */
public final class WildArgumentsTest {
    private static final int[] WILD = {Integer.MIN_VALUE, Integer.MIN_VALUE + 1, -1000001, -65536, -100, -1, 0, 1, 2, 3,
        5, 6, 7, 8, 15, 16, 17, 31, 32, 60, 61, 99, 100, 126, 127, 255, 999, 1000, 65536, 1 << 30, Integer.MAX_VALUE - 1,
        Integer.MAX_VALUE};
    private static final int[] FEW = {Integer.MIN_VALUE, -1, 0, 1, 99, 100, Integer.MAX_VALUE};
    private static final int[] NONE = {0};
    private static final String CREW = "sign 0 0 | sign 3 1 | stock 0 9 9 | days 99";
    private static final String[] STATES = {"", CREW, CREW + " | leave 1 | type 100",
        CREW + " | leave 1 | sail | write d1;x", CREW + " | leave 1 | sail | port | 14*sign 2 1 | 60*type 49"};

    public static void main(String[] args) throws IOException {
        for (String state : STATES) {
            for (int which = 0; which < Calls.NAMES.length; which++) {
                askAll(state, which);
            }
        }
        Due.end("WildArgumentsTest");
    }

    private static void askAll(String state, int which) throws IOException {
        String name = " " + Calls.NAMES[which] + " ";
        boolean hasThree = " stock sell why ".contains(name);
        boolean hasTwo = hasThree || " sign advance fine fineWatch back set sailor item book most ".contains(name);
        Set<Integer> errors = Document.errorNumbersOf(Calls.NAMES[which]);
        boolean hasNone = " sail port payOff share undo clearText play ".contains(name);
        for (int a : hasNone ? NONE : WILD) {
            for (int b : hasTwo ? WILD : NONE) {
                askRow(state, which, a, b, hasThree ? FEW : NONE, errors);
            }
        }
    }

    /** Refused calls leave the object as it was, so that it is asked once more. */
    private static void askRow(String state, int which, int a, int b, int[] row, Set<Integer> errors) {
        String before = Asked.after(state).told();
        Asked x = Asked.after(state);
        for (int c : row) {
            int answer = x.ask(which, a, b, c);
            String told = state + " | " + Calls.NAMES[which] + " " + a + " " + b + " " + c;
            Due.is(told + " is an error code of this call or not below 0", answer >= 0 || errors.contains(answer) ? 1 : 0, 1);
            if (answer >= 0 && !Calls.isQuestion(which)) {
                x = Asked.after(state);
            }
        }
        if (x.callsLeft() > 0) {
            Due.same(state + " | " + Calls.NAMES[which] + " " + a + " " + b + ", refused", x.told(), before);
        }
    }
}
