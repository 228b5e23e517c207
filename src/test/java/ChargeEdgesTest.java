/** Promises 5 to 7 by their sentences: advance, fine, fineWatch. */
public final class ChargeEdgesTest {
    private static final int INVALID = Edges.INVALID;
    private static final int NOT_POSSIBLE = Edges.NOT_POSSIBLE;
    private static final String FULL = "16*sign 0 0";
    /** Two mates with a balance of 20 each. */
    private static final String MATES = "sign 3 0 | sign 3 1 | days 10";
    private static final String TWO = "sign 0 0 | sign 0 1";
    private static final String TO_4000 = "4*fine 0 999 | fine 0 4";

    public static void main(String[] args) {
        advanceRanges();
        advanceRefusals();
        advanceBalances();
        advanceCash();
        advanceAccounts();
        fineRanges();
        fineRefusals();
        fineAccounts();
        fineWatchRanges();
        fineWatchNobody();
        fineWatchParts();
        fineWatchWho();
        fineWatchBalances();
        fineWatchAccounts();
        Due.end("ChargeEdgesTest");
    }

    private static void advanceRanges() {
        String rich = "sign 3 0 | sail | 3*days 99 | port";
        Edges.sentence("5: sailor: number of the sailor");
        Edges.dueOfEach(MATES, 499, "advance 0 1", "advance 1 1");
        Edges.dueOfEach(MATES, INVALID, "advance -1 1", "advance 2 1", "advance 16 1",
                "advance " + Integer.MIN_VALUE + " 1", "advance " + Integer.MAX_VALUE + " 1");
        Edges.due("", "advance 0 1", INVALID);
        Edges.due(FULL + " | days 2", "advance 15 1", 499);
        Edges.due(FULL + " | days 2", "advance 16 1", INVALID);
        Edges.sentence("5: coins: 1 to 999");
        Edges.due(rich, "advance 0 1", 499);
        Edges.due(rich, "advance 0 999", 0);
        Edges.due(rich + " | advance 0 999", "sailor 0 10", 999);
        Edges.dueOfEach(rich, INVALID, "advance 0 0", "advance 0 1000", "advance 0 -1",
                "advance 0 " + Integer.MIN_VALUE, "advance 0 " + Integer.MAX_VALUE);
        Edges.sentence("5: INVALID_ARGUMENT rather than NOT_POSSIBLE");
        Edges.dueOfEach(MATES + " | dismiss 1 | sail", INVALID, "advance 0 0", "advance 0 1000", "advance 1 0",
                "advance 2 1");
    }

    private static void advanceRefusals() {
        Edges.sentence("5: NOT_POSSIBLE at sea");
        Edges.due(MATES + " | sail", "advance 0 1", NOT_POSSIBLE);
        Edges.due(MATES + " | sail | port", "advance 0 1", 499);
        Edges.sentence("5: NOT_POSSIBLE if the sailor is gone");
        Edges.due(MATES + " | dismiss 1", "advance 1 1", NOT_POSSIBLE);
        Edges.due(MATES + " | leave 1 | sail | port | days 1", "advance 1 1", NOT_POSSIBLE);
        Edges.sentence("5: one who is on leave is not gone");
        Edges.due(MATES + " | leave 1", "advance 1 1", 499);
        Edges.due(MATES + " | leave 1", "advance 0 1", 499);
    }

    private static void advanceBalances() {
        Edges.sentence("5: NOT_POSSIBLE if the balance is less than coins");
        Edges.due(MATES, "advance 0 20", 480);
        Edges.due(MATES, "advance 0 21", NOT_POSSIBLE);
        Edges.due(MATES, "advance 0 999", NOT_POSSIBLE);
        Edges.due(MATES + " | advance 0 19", "advance 0 1", 480);
        Edges.due(MATES + " | advance 0 20", "advance 0 1", NOT_POSSIBLE);
        Edges.due(MATES + " | fine 0 25", "advance 0 1", NOT_POSSIBLE);
        Edges.due("sign 3 0", "advance 0 1", NOT_POSSIBLE);
        Edges.due("sign 0 0 | days 1", "advance 0 1", NOT_POSSIBLE);
        Edges.due("sign 0 0 | days 2", "advance 0 1", 499);
        Edges.due("sign 1 0 | days 9 | payOff", "advance 0 1", NOT_POSSIBLE);
        Edges.due("sign 1 0 | days 1 | fine 0 5 | payOff | days 5", "advance 0 1", 499);
        Edges.due("sign 1 0 | days 1 | fine 0 5 | payOff | days 5", "advance 0 2", NOT_POSSIBLE);
    }

    private static void advanceCash() {
        Edges.sentence("5: returns the cash then; to the last coin");
        Edges.due(MATES + " | stock 0 98 5", "advance 0 10", 0);
        Edges.due(MATES + " | stock 0 98 5 | advance 0 10", "count 9", 0);
        Edges.sentence("Cash: if there is not enough for an advance, what is missing is drawn");
        Edges.due(MATES + " | stock 0 98 5", "advance 0 11", 0);
        Edges.due(MATES + " | stock 0 98 5 | advance 0 11", "count 9", 1);
        Edges.due(MATES + " | stock 0 50 10 | advance 0 7", "count 9", 7);
    }

    private static void advanceAccounts() {
        String done = MATES + " | advance 1 5 | advance 1 2";
        Edges.sentence("5: it is charged, and neither paid nor a fine");
        Edges.dueInRow(done, "sailor 1", 3, 1, 0, 10013, 10013, 0, 10, 20, 0, 0, 7, 0, 0);
        Edges.due(done, "sailor 0 10", 0);
        Edges.due(done, "count 11", 7);
        Edges.dueOfEach(done, 0, "count 12", "count 14");
        Edges.due(done, "count 8", 493);
        Edges.sentence("The book: an entry 2");
        Edges.dueInRow(done, "book 0", 1, 2, 2);
        Edges.dueInRow(done, "book 1", 1, 2, 5);
    }

    private static void fineRanges() {
        Edges.sentence("6: sailor: number of the sailor");
        Edges.dueOfEach(TWO, 4999, "fine 0 1", "fine 1 1");
        Edges.dueOfEach(TWO, INVALID, "fine -1 1", "fine 2 1", "fine 16 1", "fine " + Integer.MIN_VALUE + " 1",
                "fine " + Integer.MAX_VALUE + " 1");
        Edges.due("", "fine 0 1", INVALID);
        Edges.due(FULL, "fine 15 1", 4999);
        Edges.due(FULL, "fine 16 1", INVALID);
        Edges.sentence("6: coins: 1 to 999");
        Edges.due(TWO, "fine 0 1", 4999);
        Edges.due(TWO, "fine 0 999", 4001);
        Edges.dueOfEach(TWO, INVALID, "fine 0 0", "fine 0 1000", "fine 0 -1", "fine 0 " + Integer.MIN_VALUE,
                "fine 0 " + Integer.MAX_VALUE);
        Edges.sentence("6: INVALID_ARGUMENT rather than NOT_POSSIBLE");
        Edges.dueOfEach(TWO + " | dismiss 1", INVALID, "fine 1 0", "fine 1 1000");
        Edges.dueOfEach(TWO + " | " + TO_4000, INVALID, "fine 0 0", "fine 0 1000");
    }

    private static void fineRefusals() {
        Edges.sentence("6: NOT_POSSIBLE if the sailor is gone");
        Edges.due(TWO + " | dismiss 1", "fine 1 1", NOT_POSSIBLE);
        Edges.due(TWO + " | leave 1 | sail", "fine 1 1", NOT_POSSIBLE);
        Edges.sentence("6: one who is on leave is not gone");
        Edges.due(TWO + " | leave 1", "fine 1 1", 4999);
        Edges.sentence("6: NOT_POSSIBLE if the balance would be below -4000");
        Edges.due(TWO + " | 4*fine 0 999", "fine 0 4", 1000);
        Edges.due(TWO + " | 4*fine 0 999", "fine 0 5", NOT_POSSIBLE);
        Edges.due(TWO + " | " + TO_4000, "fine 0 1", NOT_POSSIBLE);
        Edges.due(TWO + " | " + TO_4000 + " | days 2", "fine 0 1", 1000);
        Edges.due(TWO + " | " + TO_4000 + " | days 2", "fine 0 2", NOT_POSSIBLE);
        Edges.due(TWO + " | days 1 | " + TO_4000 + " | payOff", "fine 0 1", NOT_POSSIBLE);
        Edges.due(TWO + " | days 1 | " + TO_4000 + " | payOff", "sailor 0 11", 4000);
        Edges.sentence("6: a fine has no bound of debts, and is possible at sea, too");
        Edges.due(TWO + " | set 0 0", "fine 0 51", 4949);
        Edges.due(TWO + " | sail", "fine 0 51", 4949);
    }

    private static void fineAccounts() {
        String done = MATES + " | fine 1 5 | fine 1 2";
        Edges.sentence("6: returns 5000 and the balance then, together");
        Edges.due(MATES, "fine 0 5", 5015);
        Edges.due(MATES, "fine 0 20", 5000);
        Edges.due(MATES, "fine 0 21", 4999);
        Edges.sentence("6: it is charged, and takes no cash");
        Edges.dueInRow(done, "sailor 1", 3, 1, 0, 10013, 10013, 0, 10, 20, 0, 7, 0, 0, 0);
        Edges.due(done, "sailor 0 9", 0);
        Edges.due(done, "count 14", 7);
        Edges.due(done, "count 8", 500);
        Edges.sentence("The book: an entry 1");
        Edges.dueInRow(done, "book 0", 1, 1, 2);
        Edges.dueInRow(done, "book 1", 1, 1, 5);
    }

    private static void fineWatchRanges() {
        Edges.sentence("7: watch: 0 or 1");
        Edges.dueOfEach(TWO, 1, "fineWatch 0 1", "fineWatch 1 1");
        Edges.dueOfEach(TWO, INVALID, "fineWatch -1 1", "fineWatch 2 1", "fineWatch " + Integer.MIN_VALUE + " 1",
                "fineWatch " + Integer.MAX_VALUE + " 1");
        Edges.sentence("7: coins: 1 to 999");
        Edges.dueOfEach(TWO, 1, "fineWatch 0 1", "fineWatch 0 999");
        Edges.dueOfEach(TWO, INVALID, "fineWatch 0 0", "fineWatch 0 1000", "fineWatch 0 -1",
                "fineWatch 0 " + Integer.MIN_VALUE, "fineWatch 0 " + Integer.MAX_VALUE);
        Edges.sentence("7: INVALID_ARGUMENT rather than NOT_POSSIBLE");
        Edges.dueOfEach("", INVALID, "fineWatch 0 0", "fineWatch 2 1", "fineWatch -1 1");
        Edges.dueOfEach(TWO + " | " + TO_4000, INVALID, "fineWatch 0 0", "fineWatch 0 1000");
    }

    private static void fineWatchNobody() {
        Edges.sentence("7: NOT_POSSIBLE if there is nobody");
        Edges.dueOfEach("", NOT_POSSIBLE, "fineWatch 0 1", "fineWatch 1 1");
        Edges.due("3*sign 0 0", "fineWatch 1 1", NOT_POSSIBLE);
        Edges.due("3*sign 0 1", "fineWatch 0 1", NOT_POSSIBLE);
        Edges.due(TWO + " | dismiss 1", "fineWatch 1 1", NOT_POSSIBLE);
        Edges.due(TWO + " | leave 1 | sail", "fineWatch 1 1", NOT_POSSIBLE);
        Edges.due(TWO + " | leave 1 | sail", "fineWatch 0 1", 1);
    }

    private static void fineWatchParts() {
        Edges.sentence("7: what is left over is 1 coin more for each of the lowest numbers");
        String done = "3*sign 0 0 | fineWatch 0 ";
        Edges.due("3*sign 0 0", "fineWatch 0 9", 3);
        int[][] parts = {{1, 0, 0}, {1, 1, 0}, {1, 1, 1}, {2, 1, 1}, {2, 2, 1}, {2, 2, 2}};
        for (int coins = 1; coins <= parts.length; coins++) {
            for (int sailor = 0; sailor < 3; sailor++) {
                Edges.due(done + coins, "sailor " + sailor + " 9", parts[coins - 1][sailor]);
            }
            Edges.due(done + coins, "count 14", coins);
        }
        Edges.due(done + 999, "sailor 0 9", 333);
        Edges.due(FULL + " | fineWatch 0 999", "sailor 6 9", 63);
        Edges.due(FULL + " | fineWatch 0 999", "sailor 7 9", 62);
        Edges.sentence("7: returns how many are fined (with 0 coins, too)");
        Edges.due("3*sign 0 0", "fineWatch 0 1", 3);
        Edges.due("3*sign 0 0", "fineWatch 0 2", 3);
        Edges.due(FULL, "fineWatch 0 1", 16);
        Edges.due(FULL + " | fineWatch 0 15", "sailor 15 9", 0);
    }

    private static void fineWatchWho() {
        String mixed = "sign 0 1 | sign 0 0 | 3*sign 0 1 | dismiss 2";
        Edges.sentence("7: among all its sailors who are not gone");
        Edges.due(mixed, "fineWatch 1 11", 3);
        int[] parts = {4, 0, 0, 4, 3};
        for (int sailor = 0; sailor < 5; sailor++) {
            Edges.due(mixed + " | fineWatch 1 11", "sailor " + sailor + " 9", parts[sailor]);
        }
        Edges.sentence("7: those on leave are not gone");
        Edges.due(mixed + " | leave 1", "fineWatch 1 11", 3);
        Edges.due(mixed + " | leave 1 | back 3 0", "fineWatch 1 11", 3);
        Edges.due(mixed + " | leave 1 | fineWatch 1 11", "sailor 4 9", 3);
        Edges.sentence("7: those who were left behind are gone; also at sea");
        Edges.due(mixed + " | leave 1 | back 3 0 | sail", "fineWatch 1 11", 1);
        Edges.due(mixed + " | leave 1 | back 3 0 | sail | fineWatch 1 11", "sailor 3 9", 11);
    }

    private static void fineWatchBalances() {
        String second = "2*sign 0 0 | 4*fine 1 999";
        Edges.sentence("7: NOT_POSSIBLE if the balance of one would be below -4000");
        Edges.due(second, "fineWatch 0 8", 2);
        Edges.due(second, "fineWatch 0 9", 2);
        Edges.due(second, "fineWatch 0 10", NOT_POSSIBLE);
        Edges.due(TWO + " | " + TO_4000, "fineWatch 0 1", NOT_POSSIBLE);
        Edges.due(TWO + " | " + TO_4000, "fineWatch 1 1", 1);
        Edges.sentence("7: the coin that is left over counts");
        Edges.due("2*sign 0 0 | 4*fine 0 999", "fineWatch 0 7", 2);
        Edges.due("2*sign 0 0 | 4*fine 0 999", "fineWatch 0 8", 2);
        Edges.due("2*sign 0 0 | 4*fine 0 999", "fineWatch 0 9", NOT_POSSIBLE);
        Edges.sentence("7: with 0 coins a balance of -4000 stays");
        Edges.due(second + " | fine 1 4", "fineWatch 0 1", 2);
        Edges.due(second + " | fine 1 4", "fineWatch 0 2", NOT_POSSIBLE);
        Edges.due(second + " | fine 1 4 | fineWatch 0 1", "sailor 1 3", 6000);
        Edges.sentence("7: one who is gone has no balance");
        Edges.due("2*sign 0 0 | sign 0 1 | 4*fine 2 999 | leave 1 | sail", "fineWatch 0 999", 2);
    }

    private static void fineWatchAccounts() {
        String done = "3*sign 0 1 | sign 0 0 | fine 3 9 | fineWatch 1 2";
        Edges.sentence("The book: each sailor's part is an entry, by the numbers, if it is above 0");
        Edges.due(done, "count 16", 3);
        Edges.dueInRow(done, "book 0", 1, 1, 1);
        Edges.dueInRow(done, "book 1", 0, 1, 1);
        Edges.dueInRow(done, "book 2", 3, 1, 9);
        Edges.due(FULL + " | fineWatch 0 999", "count 16", 8);
        Edges.dueInRow(FULL + " | fineWatch 0 999", "book 0", 15, 1, 62);
        Edges.dueInRow(FULL + " | fineWatch 0 999", "book 7", 8, 1, 62);
        Edges.sentence("7: the parts are charged, and take no cash");
        Edges.due(done, "sailor 0 3", 9999);
        Edges.due(done, "sailor 2 4", 10000);
        Edges.due(done, "count 14", 11);
        Edges.due(done, "count 8", 500);
    }
}
