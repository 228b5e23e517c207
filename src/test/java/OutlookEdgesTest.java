/** Promises 19 to 25 by their sentences: why, most, clearIn, ifPaidOff, poorest, share, count. */
public final class OutlookEdgesTest {
    private static final int INVALID = Edges.INVALID;
    private static final int NOT_POSSIBLE = Edges.NOT_POSSIBLE;
    private static final int NOT_FOUND = Edges.NOT_FOUND;
    private static final String FULL = "16*sign 0 0";
    /** Two boys, the second one of the watch 1; ten of the item 0, at 10 coins. */
    private static final String SHOP = "sign 0 0 | sign 0 1 | stock 0 10 8";

    public static void main(String[] args) {
        whyRanges();
        whyReasons();
        whyFirstReason();
        mostRanges();
        mostBounds();
        mostNobody();
        clearInRanges();
        clearInDays();
        clearInWithin400();
        clearInRefusals();
        ifPaidOffRanges();
        ifPaidOffCoins();
        ifPaidOffDebts();
        ifPaidOffWho();
        poorestRanges();
        poorestOrder();
        shareNotFound();
        shareFloats();
        shareWho();
        countRanges();
        countSets();
        countNumbers();
        Due.end("OutlookEdgesTest");
    }

    private static void whyRanges() {
        Edges.sentence("19: sailor: number of the sailor");
        Edges.dueOfEach(SHOP, 0, "why 0 0 1", "why 1 0 1");
        Edges.dueOfEach(SHOP, INVALID, "why -1 0 1", "why 2 0 1", "why 16 0 1", "why " + Integer.MIN_VALUE + " 0 1",
                "why " + Integer.MAX_VALUE + " 0 1");
        Edges.due("", "why 0 0 1", INVALID);
        Edges.due(FULL, "why 15 0 1", 2);
        Edges.due(FULL, "why 16 0 1", INVALID);
        Edges.sentence("19: item: 0 to 5");
        Edges.due(SHOP, "why 0 5 1", 2);
        Edges.dueOfEach(SHOP, INVALID, "why 0 -1 1", "why 0 6 1", "why 0 " + Integer.MAX_VALUE + " 1");
        Edges.sentence("19: many: 1 to 99");
        Edges.due(SHOP, "why 0 0 1", 0);
        Edges.due(SHOP, "why 0 0 99", 2);
        Edges.dueOfEach(SHOP, INVALID, "why 0 0 0", "why 0 0 100", "why 0 0 -1", "why 0 0 " + Integer.MIN_VALUE,
                "why 0 0 " + Integer.MAX_VALUE);
        Edges.sentence("19: INVALID_ARGUMENT, whatever the reason would be");
        Edges.dueOfEach(SHOP + " | dismiss 1", INVALID, "why 1 0 0", "why 1 0 100", "why 1 6 1");
    }

    private static void whyReasons() {
        Edges.sentence("19: 1 the sailor is not aboard");
        Edges.due(SHOP + " | leave 1", "why 1 0 1", 1);
        Edges.due(SHOP + " | leave 1", "why 0 0 1", 0);
        Edges.due(SHOP + " | leave 1 | back 1 0", "why 1 0 1", 0);
        Edges.due(SHOP + " | leave 1 | sail", "why 1 0 1", 1);
        Edges.due(SHOP + " | dismiss 1", "why 1 0 1", 1);
        Edges.sentence("19: 2 there are too few in stock");
        Edges.due(SHOP + " | set 0 500", "why 0 0 10", 0);
        Edges.due(SHOP + " | set 0 500", "why 0 0 11", 2);
        Edges.due(SHOP + " | sell 0 0 5 | sell 1 0 5 | set 0 500", "why 0 0 1", 2);
        Edges.sentence("19: 3 the balance would be less than 0 less setting 0");
        Edges.due(SHOP, "why 0 0 5", 0);
        Edges.due(SHOP, "why 0 0 6", 3);
        Edges.due(SHOP + " | set 0 49", "why 0 0 5", 3);
        Edges.due(SHOP + " | days 19", "why 0 0 6", 3);
        Edges.due(SHOP + " | days 20", "why 0 0 6", 0);
        Edges.due(SHOP + " | set 0 0 | days 19", "why 0 0 1", 3);
        Edges.due(SHOP + " | set 0 0 | days 20", "why 0 0 1", 0);
        Edges.sentence("19: 0 if it is; also at sea");
        Edges.due(SHOP + " | sail", "why 0 0 5", 0);
        Edges.due(SHOP + " | sail", "why 0 0 6", 3);
    }

    private static void whyFirstReason() {
        Edges.sentence("19: the first one being the reason");
        Edges.due(SHOP + " | leave 1", "why 1 0 99", 1);
        Edges.due(SHOP + " | leave 1", "why 1 0 6", 1);
        Edges.due(SHOP + " | dismiss 1", "why 1 5 1", 1);
        Edges.due(SHOP, "why 0 0 11", 2);
        Edges.due(SHOP + " | fine 0 51", "why 0 5 1", 2);
        Edges.due(SHOP + " | fine 0 51", "why 0 0 1", 3);
    }

    private static void mostRanges() {
        Edges.sentence("20: sailor: number of the sailor");
        Edges.dueOfEach(SHOP, 5, "most 0 0", "most 1 0");
        Edges.dueOfEach(SHOP, INVALID, "most -1 0", "most 2 0", "most 16 0", "most " + Integer.MIN_VALUE + " 0",
                "most " + Integer.MAX_VALUE + " 0");
        Edges.due("", "most 0 0", INVALID);
        Edges.due(FULL, "most 15 0", 0);
        Edges.due(FULL, "most 16 0", INVALID);
        Edges.sentence("20: item: 0 to 5");
        Edges.due(SHOP, "most 0 5", 0);
        Edges.dueOfEach(SHOP, INVALID, "most 0 -1", "most 0 6", "most 0 " + Integer.MIN_VALUE,
                "most 0 " + Integer.MAX_VALUE);
        Edges.dueOfEach(SHOP + " | dismiss 1", INVALID, "most 1 -1", "most 1 6");
    }

    private static void mostBounds() {
        String cheap = "sign 0 0 | set 0 500 | stock 0 98 1";
        Edges.sentence("20: how many, 0 to 99");
        Edges.due(cheap, "most 0 0", 98);
        Edges.due(cheap + " | stock 0 1 1", "most 0 0", 99);
        Edges.due(cheap + " | stock 0 2 1", "most 0 0", 99);
        Edges.due(cheap + " | 4*stock 0 99 1", "most 0 0", 99);
        Edges.due(cheap + " | stock 0 2 1 | fine 0 401", "most 0 0", 99);
        Edges.due(cheap + " | stock 0 2 1 | fine 0 402", "most 0 0", 98);
        Edges.sentence("20: no more than there are in stock");
        Edges.due("sign 0 0 | stock 0 1 1", "most 0 0", 1);
        Edges.due("sign 0 0", "most 0 0", 0);
        Edges.due("sign 0 0 | stock 0 1 1 | sell 0 0 1", "most 0 0", 0);
        Edges.sentence("20: no more than the bound of debts lets pass");
        Edges.due(SHOP + " | days 18", "most 0 0", 5);
        Edges.due(SHOP + " | days 20", "most 0 0", 6);
        Edges.due(SHOP + " | set 0 9", "most 0 0", 0);
        Edges.due(SHOP + " | set 0 10", "most 0 0", 1);
        Edges.due(SHOP + " | set 0 0", "most 0 0", 0);
        Edges.due(SHOP + " | fine 0 40", "most 0 0", 1);
        Edges.due(SHOP + " | fine 0 41", "most 0 0", 0);
        Edges.due(SHOP + " | fine 0 50", "most 0 0", 0);
        Edges.sentence("20: none, if the balance is below the bound already");
        Edges.due("sign 0 0 | stock 0 9 1 | fine 0 49", "most 0 0", 1);
        Edges.due("sign 0 0 | stock 0 9 1 | fine 0 50", "most 0 0", 0);
        Edges.due("sign 0 0 | stock 0 9 1 | fine 0 51", "most 0 0", 0);
        Edges.due("sign 0 0 | stock 0 9 1 | fine 0 60", "most 0 0", 0);
        Edges.due(SHOP + " | 4*fine 0 999 | fine 0 4", "most 0 0", 0);
    }

    private static void mostNobody() {
        Edges.sentence("20: none for one who is not aboard");
        Edges.due(SHOP + " | leave 1", "most 1 0", 0);
        Edges.due(SHOP + " | leave 1", "most 0 0", 5);
        Edges.due(SHOP + " | leave 1 | back 1 0", "most 1 0", 5);
        Edges.due(SHOP + " | leave 1 | sail", "most 1 0", 0);
        Edges.due(SHOP + " | dismiss 1", "most 1 0", 0);
        Edges.sentence("20: also at sea");
        Edges.due(SHOP + " | sail", "most 1 0", 5);
    }

    private static void clearInRanges() {
        Edges.sentence("21: sailor: number of the sailor");
        Edges.dueOfEach(SHOP, 0, "clearIn 0", "clearIn 1");
        Edges.dueOfEach(SHOP, INVALID, "clearIn -1", "clearIn 2", "clearIn 16", "clearIn " + Integer.MIN_VALUE,
                "clearIn " + Integer.MAX_VALUE);
        Edges.due("", "clearIn 0", INVALID);
        Edges.due(FULL, "clearIn 15", 0);
        Edges.due(FULL, "clearIn 16", INVALID);
    }

    private static void clearInDays() {
        Edges.sentence("21: 0 if it is so now");
        Edges.due("sign 1 0", "clearIn 0", 0);
        Edges.due("sign 1 0 | days 5", "clearIn 0", 0);
        Edges.due("sign 1 0 | days 5 | fine 0 5", "clearIn 0", 0);
        Edges.due("sign 1 0 | days 5 | fine 0 6", "clearIn 0", 1);
        int[] inPort = {30, 15, 7, 8};
        int[] atSea = {30, 8, 7, 4};
        for (int rank = 0; rank < 4; rank++) {
            String fined = "sign " + rank + " 0 | fine 0 15";
            Edges.sentence("21: the rank " + rank + ", if the ship stays in port");
            Edges.due(fined, "clearIn 0", inPort[rank]);
            Edges.due(fined + " | sail | port", "clearIn 0", inPort[rank]);
            Edges.sentence("21: the rank " + rank + ", if the ship stays at sea");
            Edges.due(fined + " | sail", "clearIn 0", atSea[rank]);
        }
        Edges.sentence("21: the days of this voyage count: halves and sevenths go on");
        Edges.due("sign 0 0 | days 1 | fine 0 1", "clearIn 0", 1);
        Edges.due("sign 0 0 | days 2 | fine 0 2", "clearIn 0", 2);
        Edges.due("sign 2 0 | days 6 | fine 0 15", "clearIn 0", 1);
        Edges.due("sign 2 0 | days 7 | fine 0 18", "clearIn 0", 2);
        Edges.sentence("21: a debt that was carried counts; one on leave is not gone");
        Edges.due("sign 1 0 | days 1 | fine 0 4 | payOff", "clearIn 0", 3);
        Edges.due("sign 1 0 | days 1 | fine 0 4 | payOff | leave 0", "clearIn 0", 3);
    }

    private static void clearInWithin400() {
        Edges.sentence("21: NOT_FOUND if that is not within 400");
        Edges.due("sign 1 0 | fine 0 399", "clearIn 0", 399);
        Edges.due("sign 1 0 | fine 0 400", "clearIn 0", 400);
        Edges.due("sign 1 0 | fine 0 401", "clearIn 0", NOT_FOUND);
        Edges.due("sign 1 0 | fine 0 800 | sail", "clearIn 0", 400);
        Edges.due("sign 1 0 | fine 0 801 | sail", "clearIn 0", NOT_FOUND);
        Edges.due("sign 0 0 | fine 0 200", "clearIn 0", 400);
        Edges.due("sign 0 0 | fine 0 201", "clearIn 0", NOT_FOUND);
        Edges.due("sign 0 0 | days 1 | fine 0 201", "clearIn 0", NOT_FOUND);
        Edges.due("sign 0 0 | days 2 | fine 0 201", "clearIn 0", 400);
        Edges.due("sign 2 0 | fine 0 857", "clearIn 0", 400);
        Edges.due("sign 2 0 | fine 0 858", "clearIn 0", NOT_FOUND);
        Edges.due("sign 3 0 | fine 0 800", "clearIn 0", 400);
        Edges.due("sign 3 0 | fine 0 801", "clearIn 0", NOT_FOUND);
        Edges.due("sign 3 0 | fine 0 999 | fine 0 601 | sail", "clearIn 0", 400);
        Edges.due("sign 3 0 | fine 0 999 | fine 0 602 | sail", "clearIn 0", NOT_FOUND);
        Edges.sentence("21: within 400, whatever the days of the voyage");
        Edges.due("sign 1 0 | 10*days 99 | days 9 | fine 0 999 | fine 0 400", "clearIn 0", 400);
        Edges.due("sign 1 0 | 10*days 99 | days 9 | fine 0 999 | fine 0 401", "clearIn 0", NOT_FOUND);
    }

    private static void clearInRefusals() {
        Edges.sentence("21: NOT_POSSIBLE if the sailor is gone");
        Edges.due("sign 1 0 | dismiss 0", "clearIn 0", NOT_POSSIBLE);
        Edges.due("sign 1 0 | leave 0 | sail", "clearIn 0", NOT_POSSIBLE);
        Edges.sentence("21: NOT_POSSIBLE rather than NOT_FOUND");
        Edges.due("sign 1 0 | fine 0 999 | leave 0 | sail", "clearIn 0", NOT_POSSIBLE);
    }

    private static void ifPaidOffRanges() {
        Edges.sentence("22: what: 0 to 3");
        Edges.dueInRow("sign 1 0 | sign 1 1 | fine 1 9 | days 3 | stock 0 98 5 | stock 0 9 1", "ifPaidOff", 3, 2, 6, 2);
        Edges.dueOfEach("", INVALID, "ifPaidOff -1", "ifPaidOff 4", "ifPaidOff " + Integer.MIN_VALUE,
                "ifPaidOff " + Integer.MAX_VALUE);
        Edges.sentence("22: without sailors");
        Edges.dueInRow("", "ifPaidOff", 0, 0, 0, 0);
        Edges.dueInRow("days 5 | stock 0 99 6", "ifPaidOff", 0, 0, 0, 0);
    }

    private static void ifPaidOffCoins() {
        String mate = "sign 3 0 | days 5";
        Edges.sentence("22: 0: coins that would be paid");
        Edges.due(mate, "ifPaidOff 0", 10);
        Edges.due(mate + " | fine 0 10", "ifPaidOff 0", 0);
        Edges.due(mate + " | fine 0 11", "ifPaidOff 0", 0);
        Edges.due(FULL + " | days 2", "ifPaidOff 0", 16);
        Edges.sentence("22: 1: coins that would be drawn from the owners for it");
        Edges.due(mate + " | stock 0 98 5", "ifPaidOff 1", 0);
        Edges.due(mate + " | stock 0 98 5 | stock 0 1 1", "ifPaidOff 1", 1);
        Edges.due(mate + " | stock 0 50 10", "ifPaidOff 1", 10);
        Edges.due(mate + " | stock 0 99 6", "ifPaidOff 1", 10);
        Edges.due(mate + " | stock 0 50 10 | fine 0 11", "ifPaidOff 1", 0);
        Edges.sentence("22: also at sea");
        Edges.dueInRow(mate + " | sail | days 1", "ifPaidOff", 14, 0, 0, 0);
        Edges.sentence("22: what would be now, also without a day of this voyage");
        Edges.dueInRow("sign 3 0 | fine 0 5", "ifPaidOff", 0, 0, 5, 1);
        Edges.sentence("22: it is what paying off brings then");
        Edges.due(mate + " | stock 0 98 5 | stock 0 1 1", "payOff", 10);
        Edges.due(mate + " | stock 0 98 5 | stock 0 1 1 | payOff", "count 9", 1);
    }

    private static void ifPaidOffDebts() {
        Edges.sentence("22: 2: debts that would be carried, together");
        Edges.due("sign 1 0 | sign 1 1 | days 2 | fine 0 2 | fine 1 2", "ifPaidOff 2", 0);
        Edges.due("sign 1 0 | sign 1 1 | days 2 | fine 0 3 | fine 1 2", "ifPaidOff 2", 1);
        Edges.due("sign 1 0 | sign 1 1 | days 2 | fine 0 3 | fine 1 6", "ifPaidOff 2", 5);
        Edges.due("sign 1 0 | sign 1 1 | days 2 | fine 0 3 | fine 1 6 | payOff", "ifPaidOff 2", 5);
        Edges.sentence("22: 3: the sailors who would carry them, as a set");
        Edges.due("sign 1 0 | sign 1 1 | days 2 | fine 0 2 | fine 1 2", "ifPaidOff 3", 0);
        Edges.due("sign 1 0 | sign 1 1 | days 2 | fine 0 3 | fine 1 2", "ifPaidOff 3", 1);
        Edges.due("sign 1 0 | sign 1 1 | days 2 | fine 0 2 | fine 1 3", "ifPaidOff 3", 2);
        Edges.due(FULL + " | fineWatch 0 16", "ifPaidOff 3", 65535);
        Edges.due(FULL + " | fine 15 1", "ifPaidOff 3", 32768);
    }

    private static void ifPaidOffWho() {
        String crew = "sign 1 0 | sign 1 1 | days 9 | fine 0 12 | leave 0";
        Edges.sentence("22: of those on leave, too");
        Edges.dueInRow(crew, "ifPaidOff", 9, 0, 3, 1);
        Edges.dueInRow("sign 1 0 | sign 1 1 | days 9 | fine 0 12 | leave 1", "ifPaidOff", 9, 0, 3, 1);
        Edges.sentence("22: not of those who are gone");
        Edges.dueInRow(crew + " | sail", "ifPaidOff", 9, 0, 0, 0);
        Edges.dueInRow(crew + " | dismiss 1", "ifPaidOff", 0, 0, 3, 1);
    }

    private static void poorestRanges() {
        Edges.sentence("23: INVALID_ARGUMENT if place is below 0");
        Edges.due("sign 1 0", "poorest 0", 0);
        Edges.dueOfEach("sign 1 0", INVALID, "poorest -1", "poorest " + Integer.MIN_VALUE);
        Edges.due("", "poorest -1", INVALID);
        Edges.sentence("23: NOT_FOUND if there are not so many");
        Edges.dueOfEach("", NOT_FOUND, "poorest 0", "poorest 16", "poorest " + Integer.MAX_VALUE);
        Edges.due("2*sign 1 0", "poorest 1", 1);
        Edges.due("2*sign 1 0", "poorest 2", NOT_FOUND);
        Edges.due(FULL, "poorest 15", 15);
        Edges.due(FULL, "poorest 16", NOT_FOUND);
        Edges.due("2*sign 1 0 | dismiss 0", "poorest 1", NOT_FOUND);
        Edges.due("2*sign 1 0 | leave 0 | sail", "poorest 0", NOT_FOUND);
    }

    private static void poorestOrder() {
        String crew = "sign 1 0 | sign 1 1 | sign 1 0 | sign 1 1 | sign 1 0 | fine 1 5 | fine 3 9 | fine 4 5";
        Edges.sentence("23: the lowest balance first");
        Edges.due(crew, "poorest 0", 3);
        Edges.due("2*sign 1 0 | fine 1 1", "poorest 0", 1);
        Edges.due("2*sign 1 0 | fine 1 1", "poorest 1", 0);
        Edges.due("sign 1 0 | days 1 | sign 1 0", "poorest 0", 1);
        Edges.sentence("23: of several the lowest number");
        Edges.dueInRow(crew, "poorest", 3, 1, 4, 0, 2, NOT_FOUND);
        Edges.sentence("23: those on leave are not gone");
        Edges.dueInRow(crew + " | leave 1", "poorest", 3, 1, 4, 0, 2, NOT_FOUND);
        Edges.sentence("23: a sailor who is not gone");
        Edges.dueInRow(crew + " | leave 1 | sail", "poorest", 4, 0, 2, NOT_FOUND);
        Edges.dueInRow(crew + " | dismiss 0", "poorest", 3, 1, 4, 2, NOT_FOUND);
    }

    private static void shareNotFound() {
        Edges.sentence("24: NOT_FOUND if nothing was earned");
        Edges.due("", "share", NOT_FOUND);
        Edges.due("days 9", "share", NOT_FOUND);
        Edges.due("sign 1 0", "share", NOT_FOUND);
        Edges.due("sign 1 0 | fine 0 9", "share", NOT_FOUND);
        Edges.due("sign 0 0 | days 1 | fine 0 9", "share", NOT_FOUND);
        Edges.due("sign 0 0 | days 2", "share", 0);
        Edges.due("sign 1 0 | days 9 | dismiss 0", "share", NOT_FOUND);
        Edges.due("sign 1 0 | days 9 | leave 0 | sail", "share", NOT_FOUND);
        Edges.sentence("24: on this voyage");
        Edges.due("sign 1 0 | days 9 | payOff", "share", NOT_FOUND);
        Edges.due("sign 1 0 | days 9 | fine 0 3 | payOff | days 4", "share", 0);
        Edges.due("sign 1 0 | days 9 | fine 0 12 | payOff | days 4 | fine 0 1", "share", bits(1, 4));
    }

    private static int bits(int charged, int earned) {
        return Float.floatToIntBits((float) charged / (float) earned);
    }

    private static void shareFloats() {
        Edges.sentence("24: what was charged, as a float, divided by what was earned, as a float");
        Edges.due("sign 1 0 | days 9", "share", 0);
        int[][] shares = {{1, 10}, {3, 10}, {5, 10}, {9, 10}, {10, 10}, {11, 10}, {19, 10}, {20, 10}, {21, 10}, {999, 10},
            {1, 99}, {98, 99}, {100, 99}, {1, 3}, {2, 3}, {7, 3}, {999, 1}};
        for (int[] share : shares) {
            Edges.due("sign 1 0 | days " + share[1] + " | fine 0 " + share[0], "share", bits(share[0], share[1]));
        }
        Edges.sentence("24: the smallest and the greatest share");
        Edges.due("16*sign 3 0 | sail | 10*days 99 | days 9 | fine 0 1", "share", bits(1, 16 * 3996));
        Edges.due("sign 1 0 | 4*sign 0 0 | days 1 | 4*fine 0 999 | 4*fine 1 999 | 4*fine 2 999 | 4*fine 3 999"
                + " | 4*fine 4 999", "share", bits(20 * 999, 1));
        Edges.sentence("24: for the chest, fines, advances");
        Edges.due("sign 1 0 | days 50 | stock 0 9 4 | sell 0 0 1", "share", bits(5, 50));
        Edges.due("sign 1 0 | days 50 | fine 0 6", "share", bits(6, 50));
        Edges.due("sign 1 0 | days 50 | advance 0 7", "share", bits(7, 50));
        Edges.due("sign 1 0 | days 50 | stock 0 9 4 | sell 0 0 1 | fine 0 6 | advance 0 7", "share", bits(18, 50));
    }

    private static void shareWho() {
        String crew = "sign 1 0 | sign 3 1 | days 10 | fine 0 3 | advance 1 5";
        Edges.sentence("24: by those who are not gone, together");
        Edges.due(crew, "share", bits(8, 30));
        Edges.due(crew + " | leave 0", "share", bits(8, 30));
        Edges.due(crew + " | leave 0 | sail", "share", bits(5, 20));
        Edges.due(crew + " | dismiss 1", "share", bits(3, 10));
    }

    private static void countRanges() {
        Edges.sentence("25: what: 0 to 18, 20 to 22");
        Edges.due("", "count 0", 0);
        Edges.due("", "count 18", 0);
        Edges.due("", "count 20", 50);
        Edges.due("", "count 22", 2);
        Edges.dueOfEach("", INVALID, "count -1", "count 19", "count 23", "count " + Integer.MIN_VALUE,
                "count " + Integer.MAX_VALUE);
    }

    private static void countSets() {
        String crew = "sign 1 0 | sign 1 1 | 13*sign 1 0 | sign 1 1 | dismiss 3 | leave 1";
        Edges.sentence("Terms: bit k is for the sailor k");
        Edges.due(crew, "count 5", 65535 - 2 - 8 - 32768);
        Edges.due(crew, "count 6", 2 + 32768);
        Edges.due(crew, "count 7", 8);
        Edges.due(crew + " | sail", "count 7", 2 + 8 + 32768);
        Edges.sentence("25: 4: sailors, those who are gone with them");
        Edges.due(crew, "count 4", 16);
        Edges.due(crew + " | sail", "count 4", 16);
    }

    private static void countNumbers() {
        String run = "sign 1 0 | sign 3 1 | sign 3 0 | stock 0 10 4 | days 20 | sell 0 0 2 | fine 0 3 | advance 1 5"
                + " | payOff | set 2 7 | days 6 | leave 0 | back 0 1 | sail | days 5 | write d";
        int[] due = {1, 1, 11, 0, 3, 3, 0, 4, 500 - 40 - 5 - 7 - 35 - 40, 0, 40, 5, 82, 10, 10, 100012, 7, 4, 1};
        for (int what = 0; what < due.length; what++) {
            Edges.sentence("25: " + what);
            Edges.due(run, "count " + what, due[what]);
        }
        Edges.sentence("25: 20 to 22: the settings 0 to 2");
        Edges.due(run, "count 20", 50);
        Edges.due(run, "count 21", 25);
        Edges.due(run, "count 22", 7);
        Edges.sentence("25: 15: 100000 and what was forfeit so far, together");
        Edges.due("sign 1 0 | 4*fine 0 999 | fine 0 4 | leave 0 | sail", "count 15", 96000);
        Edges.sentence("25: 17: states in the history: 0 to 4");
        Edges.due("3*days 1", "count 17", 3);
        Edges.due("4*days 1", "count 17", 4);
        Edges.due("5*days 1", "count 17", 4);
        Edges.due("5*days 1 | undo", "count 17", 3);
        Edges.sentence("25: 18: the length of the text: 0 to 60");
        Edges.due("60*type 32", "count 18", 60);
        Edges.due("60*type 32 | clearText", "count 18", 0);
    }
}
