/**
 * Tests by sentences of the document: a run of calls on a new object, one call
 * more, and the answer that is due.
 */
final class Edges {
    static final int INVALID = Due.INVALID;
    static final int NOT_POSSIBLE = Due.NOT_POSSIBLE;
    static final int LIMIT = Due.LIMIT;
    static final int NOT_FOUND = Due.NOT_FOUND;

    private Edges() {
    }

    static void sentence(String words) {
        Due.sentence(words);
    }

    /**
     * Besides the answer: a refused call and a question have changed nothing,
     * and a change is one state more in the history.
     */
    static void due(String before, String call, int want) {
        Due.is(run(before, call), Asked.after(before).ask(call), want);
        int which = Calls.numberOf(call.split(" ")[0]);
        if (want < 0 || Calls.isQuestion(which)) {
            changesNothing(before, call);
        } else if (Calls.isChange(which)) {
            isOneChange(before, call);
        }
    }

    /** The same for several calls, each after the same run. */
    static void dueOfEach(String before, int want, String... calls) {
        for (String call : calls) {
            due(before, call, want);
        }
    }

    /** What "call 0", "call 1" and so on answer. */
    static void dueInRow(String before, String call, int... wanted) {
        for (int k = 0; k < wanted.length; k++) {
            due(before, call + " " + k, wanted[k]);
        }
    }

    private static String run(String before, String call) {
        return before.isEmpty() ? call : before + " | " + call;
    }

    static void changesNothing(String before, String call) {
        int states = Asked.after(before).ask("count 17");
        for (int undone = 0; undone <= states; undone++) {
            Asked x = Asked.after(before);
            x.ask(call);
            Due.is(run(before, call) + ", then states", x.ask("count 17"), states);
            sameAfterUndoing(run(before, call), x, undone, Asked.after(before), undone);
        }
        Asked x = Asked.after(before);
        x.ask(call);
        Asked y = Asked.after(before);
        Due.is(run(before, call) + ", then play", x.ask("play"), y.ask("play"));
        Due.same(run(before, call) + ", then play", x.told(), y.told());
    }

    static void isOneChange(String before, String call) {
        int states = Asked.after(before).ask("count 17");
        int then = Math.min(4, states + 1);
        for (int undone = 1; undone <= then; undone++) {
            Asked x = Asked.after(before);
            x.ask(call);
            Due.is(run(before, call) + ", then states", x.ask("count 17"), then);
            sameAfterUndoing(run(before, call), x, undone, Asked.after(before), undone - 1);
        }
    }

    private static void sameAfterUndoing(String run, Asked x, int many, Asked y, int others) {
        for (int k = 0; k < many; k++) {
            Due.is(run + ", then undo", x.ask("undo") < 0 ? 1 : 0, 0);
        }
        for (int k = 0; k < others; k++) {
            y.ask("undo");
        }
        Due.same(run + ", then " + many + " undo", x.told(), y.told());
    }
}
