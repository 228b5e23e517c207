import java.util.Arrays;

/** Promise 26 and 'Changes and errors' by their sentences: what is a change, the history, undo. */
public final class HistoryEdgesTest {
    private static final int NOT_POSSIBLE = Edges.NOT_POSSIBLE;
    /** In which each change is possible that is possible in port. */
    private static final String PORT = "sign 3 0 | sign 1 1 | stock 0 9 4 | days 20";
    private static final String THREE_STATES = PORT + " | fine 0 1 | set 0 60 | undo";
    private static final String[] CHANGES = {"sign 0 0", "stock 1 5 5", "sell 0 0 2", "advance 0 3", "fine 0 4",
        "fineWatch 1 5", "leave 1", "sail", "days 3", "dismiss 1", "payOff", "set 0 7", "play"};
    private static final String[] OTHERS = {"sailor 0 3", "item 0 1", "book 0 0", "why 0 0 1", "most 0 0", "clearIn 0",
        "ifPaidOff 0", "poorest 0", "share", "count 8", "type 111", "clearText", "fault 0"};

    public static void main(String[] args) {
        undoAnswers();
        fiveStates();
        eachChange();
        otherCalls();
        refusedCalls();
        textsStay();
        everythingBefore();
        calls512();
        Due.end("HistoryEdgesTest");
    }

    private static void undoAnswers() {
        Edges.sentence("26: NOT_POSSIBLE if it is empty");
        Edges.due("", "undo", NOT_POSSIBLE);
        Edges.due("days 1 | undo", "undo", NOT_POSSIBLE);
        Edges.due("2*days 1 | 2*undo", "undo", NOT_POSSIBLE);
        Edges.due("write o;", "undo", NOT_POSSIBLE);
        Edges.sentence("26: returns the number of states that are left in the history");
        Edges.due("days 1", "undo", 0);
        Edges.due("2*days 1", "undo", 1);
        Edges.due("3*days 1", "undo", 2);
        Edges.due("4*days 1", "undo", 3);
        Edges.due("4*days 1 | 3*undo", "undo", 0);
        Edges.sentence("26: restores the latest state");
        Edges.due("days 1 | days 2 | days 4 | days 8 | undo", "count 2", 7);
        Edges.due("days 1 | days 2 | days 4 | days 8 | 2*undo", "count 2", 3);
        Edges.due("days 1 | days 2 | days 4 | days 8 | 4*undo", "count 2", 0);
        Edges.sentence("26: which is removed from it; undo is no change");
        Edges.due("days 1 | days 2 | days 4 | undo", "count 17", 2);
        Edges.due("days 1 | days 2 | days 4 | undo | days 16", "count 2", 19);
        Edges.due("days 1 | days 2 | days 4 | undo | days 16 | undo", "count 2", 3);
        Edges.due("days 1 | days 2 | days 4 | undo | days 16 | 2*undo", "count 2", 1);
    }

    private static void fiveStates() {
        String five = "days 1 | days 2 | days 4 | days 8 | days 16";
        Edges.sentence("Changes: a history of at most 4 states is kept");
        Edges.due(five, "count 17", 4);
        Edges.due(five, "undo", 3);
        Edges.due(five + " | 4*undo", "undo", NOT_POSSIBLE);
        Edges.sentence("Changes: if there are 5 states then, the oldest one is dropped");
        Edges.due(five + " | undo", "count 2", 15);
        Edges.due(five + " | 4*undo", "count 2", 1);
        Edges.due(five + " | days 32 | 4*undo", "count 2", 3);
        Edges.due(five + " | 2*undo | days 32 | days 64 | days 1 | 4*undo", "count 2", 3);
        Edges.due(five + " | 4*undo | days 32", "undo", 0);
        Edges.due(five + " | 4*undo | days 32 | undo", "count 2", 1);
        Edges.due("40*days 1 | 4*undo", "count 2", 36);
    }

    private static void eachChange() {
        Edges.sentence("Changes: each of the changes records a state");
        for (String call : CHANGES) {
            Due.is(call, Asked.after(PORT).ask(call) < 0 ? 1 : 0, 0);
            Edges.isOneChange(PORT, call);
            Edges.isOneChange(THREE_STATES, call);
        }
        Edges.due("sign 3 0 | leave 0", "back 0 3", 6);
        Edges.due("sail", "port", 1);
        Edges.due("sign 3 0 | sail", "set 2 2", 2);
        Edges.due("sign 3 0 | sail", "fineWatch 0 1", 1);
        Edges.due("write d1;", "play", 1);
        Edges.sentence("Changes: also if nothing is other than before");
        Edges.due("set 0 50", "count 17", 1);
        Edges.due("sign 0 0 | leave 0 | back 0 0 | sail | port | sail", "undo", 3);
        Edges.due("play | play | play", "count 17", 3);
    }

    private static void otherCalls() {
        Edges.sentence("Changes: the other calls are none");
        for (String call : OTHERS) {
            Edges.due(THREE_STATES + " | write x | " + call, "count 17", 3);
        }
    }

    private static void refusedCalls() {
        String[] refused = {"sign 4 0", "stock 0 0 1", "sell 0 0 10", "advance 0 41", "fine 0 1000", "fineWatch 2 1",
            "leave 2", "back 0 0", "port", "days 100", "dismiss 2", "set 1 201", "type 127"};
        Edges.sentence("Changes: a call that returns an error changes nothing, and records no state");
        for (String call : refused) {
            Due.is(call + " is refused", Asked.after(THREE_STATES).ask(call) < 0 ? 1 : 0, 1);
            Edges.changesNothing(THREE_STATES, call);
        }
        Edges.due("sail", "sail", NOT_POSSIBLE);
        Edges.due("sail | days 1", "payOff", NOT_POSSIBLE);
        Edges.due("write x", "play", NOT_POSSIBLE);
    }

    private static void textsStay() {
        Edges.sentence("Changes: everything but the text");
        Edges.due("write o | sign 0 0 | write ; | undo", "count 18", 2);
        Edges.due("write o | sign 0 0 | write ; | undo", "play", 1);
        Edges.due("write o; | sail | clearText | undo", "count 18", 0);
        Edges.due("write o; | sail | clearText | write p; | undo", "fault 1", 2);
        Edges.due("write o; | sail | undo", "fault 0", Edges.NOT_FOUND);
    }

    private static void everythingBefore() {
        Edges.sentence("Changes: each records everything before it");
        String[] calls = {"sign 3 0", "stock 2 4 3", "days 5", "advance 0 4", "fine 0 7", "fineWatch 0 2", "sail",
            "set 0 60", "port", "sell 0 2 1", "play", "leave 0", "back 0 3", "payOff", "sign 1 1", "days 9", "dismiss 1"};
        for (int undone = 1; undone <= 4; undone++) {
            for (int many = undone; many <= calls.length; many++) {
                String all = String.join(" | ", Arrays.copyOf(calls, many));
                String fewer = String.join(" | ", Arrays.copyOf(calls, many - undone));
                Due.same(all + ", " + undone + " undone", Asked.after(all + " | " + undone + "*undo").told(),
                        Asked.after(fewer).told());
            }
        }
    }

    private static void calls512() {
        Edges.sentence("An object is used for at most 512 calls: the 512th one is answered");
        Asked x = Asked.after("60*type 32 | 9*days 99 | 4*undo | 438*clearText");
        Due.is("the 512th call", x.ask("days 99"), 594);
    }
}
