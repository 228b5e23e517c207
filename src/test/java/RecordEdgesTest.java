/** Promises 16 to 18 by their sentences: sailor, item, book. */
public final class RecordEdgesTest {
    private static final int INVALID = Edges.INVALID;
    private static final int NOT_FOUND = Edges.NOT_FOUND;
    private static final String FULL = "16*sign 0 0";
    /** A mate in debt from the voyage before, with charges of each kind and on leave. */
    private static final String MATE = "sign 1 0 | sign 3 1 | stock 4 10 4 | days 1 | fine 1 12 | payOff | sail | days 9"
            + " | port | days 3 | sell 1 4 3 | fine 1 2 | advance 1 7 | leave 1";

    public static void main(String[] args) {
        sailorRanges();
        sailorNumbers();
        sailorsWhoAreGone();
        wagesOfOneDay();
        wagesRoundedDown();
        balances();
        itemRanges();
        itemNumbers();
        bookRanges();
        bookNotFound();
        bookKeepsEight();
        bookOrder();
        bookKinds();
        Due.end("RecordEdgesTest");
    }

    private static void sailorRanges() {
        Edges.sentence("16: sailor: number of the sailor");
        Edges.due("sign 2 0", "sailor 0 0", 2);
        Edges.dueOfEach("sign 2 0", INVALID, "sailor -1 0", "sailor 1 0", "sailor 15 0", "sailor 16 0",
                "sailor " + Integer.MIN_VALUE + " 0", "sailor " + Integer.MAX_VALUE + " 0");
        Edges.due("", "sailor 0 0", INVALID);
        Edges.due(FULL, "sailor 15 0", 0);
        Edges.due(FULL, "sailor 16 0", INVALID);
        Edges.sentence("16: what: 0 to 12");
        Edges.due("sign 2 0", "sailor 0 0", 2);
        Edges.due("sign 2 0", "sailor 0 12", 0);
        Edges.dueOfEach("sign 2 0", INVALID, "sailor 0 -1", "sailor 0 13", "sailor 0 " + Integer.MIN_VALUE,
                "sailor 0 " + Integer.MAX_VALUE);
        Edges.sentence("16: what is out of range of one who is gone, too");
        Edges.dueOfEach("sign 2 0 | dismiss 0", INVALID, "sailor 0 -1", "sailor 0 13");
    }

    private static void sailorNumbers() {
        Edges.sentence("16: returns the number");
        Edges.dueInRow(MATE, "sailor 1", 3, 1, 1, 10008, 10008, 9, 3, 42, 15, 2, 7, 10, 0);
        Edges.dueInRow(MATE, "sailor 0", 1, 0, 0, 10021, 10021, 9, 3, 21, 0, 0, 0, 0, 1);
        Edges.sentence("16: 2: 0 aboard, 1 on leave, 2 gone");
        Edges.due("sign 2 0", "sailor 0 2", 0);
        Edges.due("sign 2 0 | leave 0", "sailor 0 2", 1);
        Edges.due("sign 2 0 | leave 0 | back 0 0", "sailor 0 2", 0);
        Edges.due("sign 2 0 | leave 0 | sail", "sailor 0 2", 2);
        Edges.due("sign 2 0 | dismiss 0", "sailor 0 2", 2);
        Edges.sentence("16: 11: the debt that was carried into this voyage (0 or above)");
        Edges.due("sign 2 0 | days 1 | fine 0 3", "sailor 0 11", 0);
        Edges.due("sign 2 0 | days 1 | fine 0 3 | payOff", "sailor 0 11", 1);
        Edges.due("sign 2 0 | days 1 | fine 0 2 | payOff", "sailor 0 11", 0);
        Edges.due("sign 2 0 | days 1 | fine 0 1 | payOff", "sailor 0 11", 0);
        Edges.due("sign 2 0 | days 1 | fine 0 3 | payOff | days 2 | fine 0 1", "sailor 0 11", 1);
        Edges.sentence("16: 12: paid so far, on all voyages");
        Edges.due("sign 2 0 | days 1 | payOff | days 2 | payOff", "sailor 0 12", 6);
        Edges.due("sign 2 0 | days 1 | payOff | days 2 | dismiss 0", "sailor 0 12", 6);
        Edges.due("sign 2 0 | days 1 | payOff | days 2", "sailor 0 12", 2);
    }

    private static void sailorsWhoAreGone() {
        Edges.sentence("16: of one who is gone 10000 for 3 and 4, 0 for 5 to 11");
        Edges.dueInRow(MATE + " | sail", "sailor 1", 3, 1, 2, 10000, 10000, 0, 0, 0, 0, 0, 0, 0, 0);
        Edges.dueInRow(MATE + " | dismiss 1", "sailor 1", 3, 1, 2, 10000, 10000, 0, 0, 0, 0, 0, 0, 0, 8);
        Edges.dueInRow(MATE + " | dismiss 0", "sailor 0", 1, 0, 2, 10000, 10000, 0, 0, 0, 0, 0, 0, 0, 22);
        Edges.dueInRow(MATE + " | fine 1 99 | sail", "sailor 1", 3, 1, 2, 10000, 10000, 0, 0, 0, 0, 0, 0, 0, 0);
        Edges.sentence("16: and so it stays");
        Edges.dueInRow(MATE + " | dismiss 0 | days 9 | payOff | days 5", "sailor 0", 1, 0, 2, 10000, 10000, 0, 0, 0, 0,
                0, 0, 0, 22);
    }

    private static void wagesOfOneDay() {
        int[] inPort = {0, 1, 2, 2};
        int[] atSea = {0, 2, 2, 4};
        int[] both = {1, 3, 4, 6};
        for (int rank = 0; rank < 4; rank++) {
            Edges.sentence("Wages of the rank " + rank + ": without a day, in port, at sea, and both");
            Edges.due("sign " + rank + " 0", "sailor 0 7", 0);
            Edges.due("sign " + rank + " 0 | days 1", "sailor 0 7", inPort[rank]);
            Edges.due("sign " + rank + " 0 | sail | days 1", "sailor 0 7", atSea[rank]);
            Edges.due("sign " + rank + " 0 | days 1 | sail | days 1", "sailor 0 7", both[rank]);
        }
    }

    private static void wagesRoundedDown() {
        Edges.sentence("Wages: a boy: (d and p, together) / 2, rounded down");
        Edges.due("sign 0 0 | days 3", "sailor 0 7", 1);
        Edges.due("sign 0 0 | days 3 | sail | days 3", "sailor 0 7", 3);
        Edges.due("sign 0 0 | days 3 | sail | days 4", "sailor 0 7", 3);
        Edges.sentence("Wages: a cook: (d and p, together) / 7, rounded down");
        Edges.due("sign 2 0 | days 6", "sailor 0 7", 12);
        Edges.due("sign 2 0 | days 7", "sailor 0 7", 15);
        Edges.due("sign 2 0 | days 6 | sail | days 7", "sailor 0 7", 27);
        Edges.due("sign 2 0 | days 6 | sail | days 8", "sailor 0 7", 30);
        Edges.sentence("Wages: on this voyage, with 999 days at most");
        int[] inPort = {499, 999, 2140, 1998};
        int[] atSea = {499, 1998, 2140, 3996};
        for (int rank = 0; rank < 4; rank++) {
            Edges.due("sign " + rank + " 0 | 10*days 99 | days 9", "sailor 0 7", inPort[rank]);
            Edges.due("sign " + rank + " 0 | sail | 10*days 99 | days 9", "sailor 0 7", atSea[rank]);
            Edges.due("sign " + rank + " 0 | sail | 10*days 99 | days 9 | port | payOff", "sailor 0 7", 0);
        }
    }

    private static void balances() {
        String[] runs = {"", " | days 9", " | fine 0 5", " | days 9 | fine 0 9", " | days 9 | fine 0 10",
            " | 4*fine 0 999 | fine 0 4", " | days 9 | advance 0 9", " | stock 0 9 4 | sell 0 0 2",
            " | days 9 | fine 0 12 | payOff", " | days 9 | fine 0 12 | payOff | days 1",
            " | days 9 | fine 0 12 | payOff | days 3 | fine 0 1", " | sail | 10*days 99 | days 9"};
        int[] told = {10000, 10009, 9995, 10000, 9999, 6000, 10000, 9990, 9997, 9998, 9999, 11998};
        Edges.sentence("16: 3: 10000 and the balance, together, told entry by entry");
        for (int k = 0; k < runs.length; k++) {
            Edges.due("sign 1 0" + runs[k], "sailor 0 3", told[k]);
        }
        Edges.sentence("16: 4: the same, told by what was earned, carried and charged");
        for (int k = 0; k < runs.length; k++) {
            Edges.due("sign 1 0" + runs[k], "sailor 0 4", told[k]);
        }
    }

    private static void itemRanges() {
        Edges.sentence("17: item: 0 to 5");
        Edges.due("stock 0 7 1", "item 0 0", 7);
        Edges.due("stock 5 7 1", "item 5 0", 7);
        Edges.dueOfEach("", INVALID, "item -1 0", "item 6 0", "item " + Integer.MIN_VALUE + " 0",
                "item " + Integer.MAX_VALUE + " 0");
        Edges.sentence("17: what: 0 to 4");
        Edges.dueOfEach("", 0, "item 0 0", "item 0 4");
        Edges.dueOfEach("", INVALID, "item 0 -1", "item 0 5", "item 0 " + Integer.MIN_VALUE,
                "item 0 " + Integer.MAX_VALUE);
    }

    private static void itemNumbers() {
        String run = "sign 3 0 | set 0 500 | stock 1 30 4 | stock 5 20 8 | sell 0 1 10 | stock 1 5 20 | sell 0 1 2";
        Edges.sentence("17: returns the number");
        Edges.dueInRow(run, "item 1", 23, 25, 35, 12, 100);
        Edges.dueInRow(run, "item 5", 20, 10, 20, 0, 0);
        Edges.dueInRow(run, "item 0", 0, 0, 0, 0, 0);
        Edges.sentence("17: 2 to 4: so far, on all voyages");
        Edges.dueInRow(run + " | days 1 | payOff | stock 1 1 4 | sell 0 1 1", "item 1", 23, 5, 36, 13, 105);
        Edges.sentence("The chest: the stock is 500 at most, and may run out");
        Edges.dueInRow("5*stock 0 99 1 | stock 0 5 1", "item 0", 500, 1, 500, 0, 0);
        Edges.dueInRow("sign 0 0 | stock 0 3 1 | sell 0 0 3", "item 0", 0, 1, 3, 3, 3);
    }

    private static void bookRanges() {
        Edges.sentence("18: ago is not below 0");
        Edges.due("sign 0 0 | fine 0 7", "book 0 2", 7);
        Edges.dueOfEach("sign 0 0 | fine 0 7", INVALID, "book -1 0", "book -1 2", "book " + Integer.MIN_VALUE + " 0");
        Edges.due("", "book -1 0", INVALID);
        Edges.sentence("18: what: 0 to 2");
        Edges.dueInRow("sign 0 0 | fine 0 7", "book 0", 0, 1, 7);
        Edges.dueOfEach("sign 0 0 | fine 0 7", INVALID, "book 0 -1", "book 0 3", "book 0 " + Integer.MIN_VALUE,
                "book 0 " + Integer.MAX_VALUE);
        Edges.sentence("18: INVALID_ARGUMENT rather than NOT_FOUND");
        Edges.dueOfEach("", INVALID, "book 0 3", "book 0 -1", "book 8 3", "book " + Integer.MAX_VALUE + " 3");
    }

    private static void bookNotFound() {
        Edges.sentence("18: NOT_FOUND if there are not so many");
        Edges.dueOfEach("", NOT_FOUND, "book 0 0", "book 0 2", "book 7 0", "book 8 0",
                "book " + Integer.MAX_VALUE + " 0");
        Edges.due("sign 0 0 | fine 0 7", "book 1 0", NOT_FOUND);
        Edges.due("sign 0 0 | 2*fine 0 7", "book 1 2", 7);
        Edges.due("sign 0 0 | 2*fine 0 7", "book 2 2", NOT_FOUND);
        Edges.due("sign 0 0 | 2*fine 0 7 | undo", "book 1 2", NOT_FOUND);
    }

    private static void bookKeepsEight() {
        Edges.sentence("The book: the latest 8 are kept");
        Edges.due("sign 0 0 | fine 0 5 | 6*fine 0 7", "count 16", 7);
        Edges.due("sign 0 0 | fine 0 5 | 6*fine 0 7", "book 6 2", 5);
        Edges.due("sign 0 0 | fine 0 5 | 6*fine 0 7", "book 7 2", NOT_FOUND);
        Edges.due("sign 0 0 | fine 0 5 | 7*fine 0 7", "count 16", 8);
        Edges.due("sign 0 0 | fine 0 5 | 7*fine 0 7", "book 7 2", 5);
        Edges.due("sign 0 0 | fine 0 5 | 7*fine 0 7", "book 8 2", NOT_FOUND);
        Edges.due("sign 0 0 | fine 0 5 | 8*fine 0 7", "count 16", 8);
        Edges.due("sign 0 0 | fine 0 5 | 8*fine 0 7", "book 7 2", 7);
        Edges.due("sign 0 0 | fine 0 5 | 8*fine 0 7", "book 8 2", NOT_FOUND);
        Edges.due("sign 0 0 | fine 0 5 | 8*fine 0 7 | undo", "book 7 2", 5);
        Edges.due("sign 0 0 | fine 0 5 | 7*fine 0 7 | undo", "count 16", 7);
    }

    private static void bookOrder() {
        String run = "sign 3 0 | sign 3 1 | days 50 | fine 0 1 | fine 1 2 | fine 0 3 | fine 1 4 | fine 0 5 | fine 1 6"
                + " | fine 0 7 | fine 1 8 | fine 0 9 | advance 1 10";
        Edges.sentence("18: ago: 0 for the latest one, and so on");
        Edges.dueInRow(run, "book 0", 1, 2, 10);
        for (int ago = 1; ago < 8; ago++) {
            Edges.dueInRow(run, "book " + ago, ago % 2 == 0 ? 1 : 0, 1, 10 - ago);
        }
    }

    private static void bookKinds() {
        String run = "sign 3 0 | sign 3 1 | stock 0 10 4 | days 50 | sell 1 0 2 | fine 0 3 | advance 1 4 | dismiss 0";
        Edges.sentence("The book: 0 from the chest, 1 a fine, 2 an advance, 3 paid");
        Edges.dueInRow(run, "book 0", 0, 3, 97);
        Edges.dueInRow(run, "book 1", 1, 2, 4);
        Edges.dueInRow(run, "book 2", 0, 1, 3);
        Edges.dueInRow(run, "book 3", 1, 0, 10);
        Edges.due(run, "count 16", 4);
        Edges.sentence("The book: what is neither a charge nor a payment is no entry");
        Edges.due("sign 3 0 | stock 0 10 4 | days 5 | set 0 7 | leave 0 | back 0 0 | sail | port", "count 16", 0);
        Edges.due("sign 3 0 | days 5 | leave 0 | sail", "count 16", 0);
    }
}
