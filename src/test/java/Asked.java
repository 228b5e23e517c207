/**
 * An object with its calls told as texts, "sign 3 0" for sign(3, 0); they are
 * counted, as the document promises nothing beyond 512 of them.
 */
final class Asked {
    static final int CALLS_AT_MOST = 512;

    private final PurserLedgers books = new PurserLedgers();
    private int calls = 0;

    /**
     * A new object after these calls, which are set apart by " | " and must all
     * be possible: "16*sign 0 0" is a call 16 times, "write o;p;" types these signs.
     */
    static Asked after(String run) {
        Asked x = new Asked();
        if (!run.isEmpty()) {
            for (String part : run.split(" \\| ")) {
                x.carryOut(run, part);
            }
        }
        return x;
    }

    private void carryOut(String run, String part) {
        if (part.startsWith("write ")) {
            for (char sign : part.substring(6).toCharArray()) {
                mustBePossible(run, ask("type " + (int) sign));
            }
            return;
        }
        int star = part.indexOf('*');
        int times = star < 0 ? 1 : Integer.parseInt(part.substring(0, star));
        for (int k = 0; k < times; k++) {
            mustBePossible(run, ask(part.substring(star + 1)));
        }
    }

    private static void mustBePossible(String run, int answer) {
        Due.is(run + ", a call ahead of the one in question", answer < 0 ? answer : 0, 0);
    }

    int ask(String call) {
        String[] words = call.split(" ");
        int[] numbers = new int[3];
        for (int k = 1; k < words.length; k++) {
            numbers[k - 1] = Integer.parseInt(words[k]);
        }
        return ask(Calls.numberOf(words[0]), numbers[0], numbers[1], numbers[2]);
    }

    int ask(int which, int a, int b, int c) {
        calls++;
        if (calls > CALLS_AT_MOST) {
            throw new IllegalStateException("an object is asked more often than is promised");
        }
        return Calls.ask(books, which, a, b, c);
    }

    int callsLeft() {
        return CALLS_AT_MOST - calls;
    }

    /** All that can be asked, but for how many states the history has. */
    String told() {
        StringBuilder all = new StringBuilder();
        int sailors = ask("count 4");
        int entries = ask("count 16");
        for (int what = 0; what <= 22; what++) {
            if (what != 17) {
                tell(all, "count " + what);
            }
        }
        for (int sailor = 0; sailor < sailors; sailor++) {
            tellAll(all, "sailor " + sailor, 13);
        }
        for (int item = 0; item < 6; item++) {
            tellAll(all, "item " + item, 5);
        }
        for (int ago = 0; ago < entries; ago++) {
            tellAll(all, "book " + ago, 3);
        }
        tellAll(all, "poorest", sailors + 1);
        tellAll(all, "ifPaidOff", 4);
        tellAll(all, "fault", 3);
        tell(all, "share");
        return all.toString();
    }

    private void tellAll(StringBuilder all, String call, int many) {
        for (int k = 0; k < many; k++) {
            tell(all, call + " " + k);
        }
    }

    private void tell(StringBuilder all, String call) {
        all.append(call).append(" = ").append(ask(call)).append('\n');
    }
}
