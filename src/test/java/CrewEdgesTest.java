/** Promises 1 to 4 by their sentences: a new object, sign, stock, sell. */
public final class CrewEdgesTest {
    private static final int INVALID = Edges.INVALID;
    private static final int NOT_POSSIBLE = Edges.NOT_POSSIBLE;
    private static final int LIMIT = Edges.LIMIT;
    private static final int NOT_FOUND = Edges.NOT_FOUND;
    private static final String FULL = "16*sign 0 0";
    private static final String STOCK_495 = "5*stock 3 99 1";
    private static final String STOCK_500 = STOCK_495 + " | stock 3 5 1";
    /** Two boys, the second one of the watch 1; the item 0 at 1 coin, the item 1 at 50. */
    private static final String SHOP = "sign 0 0 | sign 0 1 | stock 0 99 1 | stock 1 99 40";

    public static void main(String[] args) {
        newObject();
        newObjectIsEmpty();
        signRanges();
        signRefusals();
        signedSailor();
        stockRanges();
        stockPrices();
        stockRefusals();
        stockFull();
        stockCash();
        sellRanges();
        sellReasons();
        sellBounds();
        sellAccounts();
        Due.end("CrewEdgesTest");
    }

    private static void newObject() {
        Edges.sentence("1: begins in port");
        Edges.due("", "count 1", 0);
        Edges.due("", "port", NOT_POSSIBLE);
        Edges.due("", "sail", 0);
        Edges.sentence("1: ahead of the voyage 0");
        Edges.due("", "count 0", 0);
        Edges.due("", "count 2", 0);
        Edges.due("", "payOff", NOT_POSSIBLE);
        Edges.sentence("1: without sailors");
        Edges.dueOfEach("", 0, "count 4", "count 5", "count 6", "count 7");
        Edges.due("", "sailor 0 0", INVALID);
        Edges.due("", "poorest 0", NOT_FOUND);
        Edges.sentence("1: without stock");
        for (int item = 0; item < 6; item++) {
            Edges.dueInRow("", "item " + item, 0, 0, 0, 0, 0);
        }
    }

    private static void newObjectIsEmpty() {
        Edges.sentence("Cash: 500 coins at first");
        Edges.due("", "count 8", 500);
        Edges.dueOfEach("", 0, "count 9", "count 10", "count 11", "count 12", "count 13", "count 14");
        Edges.due("", "count 15", 100000);
        Edges.sentence("Settings: the first values are 50, 25, 2");
        Edges.due("", "count 20", 50);
        Edges.due("", "count 21", 25);
        Edges.due("", "count 22", 2);
        Edges.sentence("Texts: initially empty");
        Edges.due("", "count 18", 0);
        Edges.due("", "clearText", 0);
        Edges.due("", "fault 0", NOT_FOUND);
        Edges.sentence("Nothing has been changed and entered yet");
        Edges.dueOfEach("", 0, "count 3", "count 16", "count 17");
        Edges.due("", "undo", NOT_POSSIBLE);
        Edges.due("", "book 0 0", NOT_FOUND);
        Edges.sentence("1: each object begins for itself");
        Asked.after("sign 0 0 | stock 0 9 9 | set 0 7 | days 3 | fine 0 1 | sail | write o;");
        Due.same("another object", new Asked().told(), Asked.after("sign 0 0 | undo").told());
        Edges.due("", "undo", NOT_POSSIBLE);
    }

    private static void signRanges() {
        Edges.sentence("2: rank: 0 to 3");
        Edges.dueOfEach("", 0, "sign 0 0", "sign 1 0", "sign 2 0", "sign 3 0");
        Edges.dueOfEach("", INVALID, "sign -1 0", "sign 4 0", "sign " + Integer.MIN_VALUE + " 0",
                "sign " + Integer.MAX_VALUE + " 0");
        Edges.sentence("2: watch: 0 or 1");
        Edges.dueOfEach("", 0, "sign 0 0", "sign 0 1");
        Edges.dueOfEach("", INVALID, "sign 0 -1", "sign 0 2", "sign 0 " + Integer.MIN_VALUE,
                "sign 0 " + Integer.MAX_VALUE);
        Edges.sentence("2: returns the number; numbered from 0 in the order in which they came");
        Edges.due("", "sign 3 1", 0);
        Edges.due("sign 3 1", "sign 3 1", 1);
        Edges.due("14*sign 3 1", "sign 3 1", 14);
        Edges.sentence("Sailors: those who are gone keep their number");
        Edges.due("sign 0 0 | sign 1 1 | dismiss 0", "sign 2 0", 2);
        Edges.due("sign 0 0 | sign 1 1 | dismiss 0 | sign 2 0", "sailor 0 2", 2);
        Edges.due("sign 0 0 | sign 1 1 | dismiss 0 | sign 2 0", "sailor 1 0", 1);
    }

    private static void signRefusals() {
        Edges.sentence("2: NOT_POSSIBLE at sea");
        Edges.due("sail", "sign 0 0", NOT_POSSIBLE);
        Edges.due("sail | port", "sign 0 0", 0);
        Edges.sentence("2: LIMIT_REACHED if there are 16");
        Edges.due("15*sign 0 0", "sign 0 0", 15);
        Edges.due(FULL, "sign 0 0", LIMIT);
        Edges.sentence("2: LIMIT_REACHED if there are 16, with those who are gone");
        Edges.due(FULL + " | dismiss 7", "sign 0 0", LIMIT);
        Edges.due(FULL + " | leave 0 | sail | port", "sign 0 0", LIMIT);
        Edges.sentence("2: INVALID_ARGUMENT rather than NOT_POSSIBLE");
        Edges.due("sail", "sign 4 0", INVALID);
        Edges.due("sail", "sign 0 2", INVALID);
        Edges.sentence("2: INVALID_ARGUMENT rather than LIMIT_REACHED");
        Edges.due(FULL, "sign -1 0", INVALID);
        Edges.due(FULL, "sign 0 -1", INVALID);
        Edges.sentence("2: NOT_POSSIBLE rather than LIMIT_REACHED");
        Edges.due(FULL + " | sail", "sign 0 0", NOT_POSSIBLE);
    }

    private static void signedSailor() {
        Edges.sentence("2: a sailor comes aboard");
        Edges.dueInRow("sign 1 0 | days 9 | sign 3 1", "sailor 1", 3, 1, 0, 10000, 10000, 0, 0, 0, 0, 0, 0, 0, 0);
        Edges.due("sign 1 0 | sign 3 1", "count 4", 2);
        Edges.due("sign 1 0 | sign 3 1", "count 5", 3);
        Edges.due(FULL, "count 4", 16);
        Edges.due(FULL, "count 5", 65535);
    }

    private static void stockRanges() {
        Edges.sentence("3: item: 0 to 5");
        Edges.dueOfEach("", 1, "stock 0 1 1", "stock 5 1 1");
        Edges.dueOfEach("", INVALID, "stock -1 1 1", "stock 6 1 1", "stock " + Integer.MIN_VALUE + " 1 1",
                "stock " + Integer.MAX_VALUE + " 1 1");
        Edges.sentence("3: many: 1 to 99");
        Edges.dueOfEach("", 1, "stock 0 1 1", "stock 0 99 1");
        Edges.dueOfEach("", INVALID, "stock 0 0 1", "stock 0 100 1", "stock 0 -1 1",
                "stock 0 " + Integer.MAX_VALUE + " 1");
        Edges.sentence("3: cost: 1 to 99");
        Edges.due("", "stock 0 1 1", 1);
        Edges.due("", "stock 0 1 99", 123);
        Edges.dueOfEach("", INVALID, "stock 0 1 0", "stock 0 1 100", "stock 0 1 -1",
                "stock 0 1 " + Integer.MIN_VALUE);
    }

    private static void stockPrices() {
        Edges.sentence("The chest: the price is the cost and cost * setting 1 / 100, rounded down");
        Edges.due("", "stock 0 1 3", 3);
        Edges.due("", "stock 0 1 4", 5);
        Edges.due("", "stock 0 1 7", 8);
        Edges.due("", "stock 0 1 8", 10);
        Edges.due("set 1 0", "stock 0 1 99", 99);
        Edges.due("set 1 1", "stock 0 1 99", 99);
        Edges.due("set 1 2", "stock 0 1 99", 100);
        Edges.due("set 1 199", "stock 0 1 1", 2);
        Edges.due("set 1 200", "stock 0 1 1", 3);
        Edges.due("set 1 200", "stock 0 1 99", 297);
        Edges.sentence("The chest: it changes the price of all its stock");
        Edges.due("stock 0 9 40 | stock 1 9 40 | stock 0 1 2", "item 0 1", 2);
        Edges.due("stock 0 9 40 | stock 1 9 40 | stock 0 1 2", "item 1 1", 50);
        Edges.due("sign 0 0 | stock 0 9 40 | stock 0 1 2", "sell 0 0 10", 20);
        Edges.sentence("The chest: the price is changed by buying alone");
        Edges.due("stock 0 9 40 | set 1 0", "item 0 1", 50);
        Edges.sentence("The chest: the price stays when the stock runs out");
        Edges.due("sign 0 0 | stock 0 1 40 | sell 0 0 1", "item 0 0", 0);
        Edges.due("sign 0 0 | stock 0 1 40 | sell 0 0 1", "item 0 1", 50);
    }

    private static void stockRefusals() {
        Edges.sentence("3: NOT_POSSIBLE at sea");
        Edges.due("sail", "stock 0 1 1", NOT_POSSIBLE);
        Edges.due("sail | port", "stock 0 1 1", 1);
        Edges.sentence("3: INVALID_ARGUMENT rather than NOT_POSSIBLE");
        Edges.dueOfEach("sail", INVALID, "stock 6 1 1", "stock 0 0 1", "stock 0 1 0");
        Edges.sentence("3: INVALID_ARGUMENT rather than LIMIT_REACHED");
        Edges.dueOfEach(STOCK_500, INVALID, "stock 3 100 1", "stock 3 1 100");
        Edges.sentence("3: NOT_POSSIBLE rather than LIMIT_REACHED");
        Edges.due(STOCK_500 + " | sail", "stock 3 1 1", NOT_POSSIBLE);
    }

    private static void stockFull() {
        Edges.sentence("3: LIMIT_REACHED if there would be more than 500");
        Edges.due(STOCK_495, "stock 3 5 7", 8);
        Edges.due(STOCK_495, "stock 3 6 7", LIMIT);
        Edges.due(STOCK_500, "stock 3 1 1", LIMIT);
        Edges.due(STOCK_500, "stock 3 99 1", LIMIT);
        Edges.sentence("3: the 500 are of one item");
        Edges.due(STOCK_500, "stock 2 99 1", 1);
        Edges.due(STOCK_500, "item 3 0", 500);
        Edges.sentence("3: the 500 are in stock, those that were sold not counted");
        Edges.due("sign 0 0 | " + STOCK_500 + " | sell 0 3 3", "stock 3 3 1", 1);
        Edges.due("sign 0 0 | " + STOCK_500 + " | sell 0 3 3", "stock 3 4 1", LIMIT);
        Edges.due("sign 0 0 | " + STOCK_500 + " | sell 0 3 3 | stock 3 3 1", "item 3 2", 503);
    }

    private static void stockCash() {
        Edges.sentence("Cash: what is bought for the chest is taken from it");
        Edges.due("stock 0 9 9", "count 8", 419);
        Edges.due("stock 0 9 9", "count 9", 0);
        Edges.due("stock 0 9 9 | stock 1 1 19", "count 10", 100);
        Edges.sentence("Cash: enough, to the last coin");
        Edges.due("stock 0 50 10", "count 8", 0);
        Edges.due("stock 0 50 10", "count 9", 0);
        Edges.sentence("Cash: if there is not enough, what is missing is drawn from the owners");
        Edges.due("stock 0 99 5 | stock 1 2 3", "count 8", 0);
        Edges.due("stock 0 99 5 | stock 1 2 3", "count 9", 1);
        Edges.due("stock 0 50 10 | stock 1 2 3", "count 8", 0);
        Edges.due("stock 0 50 10 | stock 1 2 3", "count 9", 6);
        Edges.due("stock 0 99 99", "count 9", 9301);
    }

    private static void sellRanges() {
        Edges.sentence("4: sailor: number of the sailor");
        Edges.dueOfEach(SHOP, 1, "sell 0 0 1", "sell 1 0 1");
        Edges.dueOfEach(SHOP, INVALID, "sell -1 0 1", "sell 2 0 1", "sell 15 0 1", "sell 16 0 1",
                "sell " + Integer.MIN_VALUE + " 0 1", "sell " + Integer.MAX_VALUE + " 0 1");
        Edges.due("stock 0 9 1", "sell 0 0 1", INVALID);
        Edges.due(FULL + " | stock 0 9 1", "sell 15 0 1", 1);
        Edges.due(FULL + " | stock 0 9 1", "sell 16 0 1", INVALID);
        Edges.sentence("4: item: 0 to 5");
        Edges.due(SHOP + " | stock 5 1 2", "sell 0 5 1", 2);
        Edges.dueOfEach(SHOP, INVALID, "sell 0 -1 1", "sell 0 6 1", "sell 0 " + Integer.MAX_VALUE + " 1");
        Edges.sentence("4: many: 1 to 99");
        Edges.due(SHOP, "sell 0 0 1", 1);
        Edges.due(SHOP + " | set 0 500", "sell 0 0 99", 99);
        Edges.dueOfEach(SHOP + " | set 0 500 | stock 0 9 1", INVALID, "sell 0 0 0", "sell 0 0 100", "sell 0 0 -1",
                "sell 0 0 " + Integer.MIN_VALUE);
        Edges.sentence("4: INVALID_ARGUMENT rather than NOT_POSSIBLE");
        Edges.dueOfEach(SHOP + " | dismiss 1", INVALID, "sell 1 0 0", "sell 1 6 1", "sell 2 5 1");
    }

    private static void sellReasons() {
        Edges.sentence("4: NOT_POSSIBLE for the reason 1: the sailor is not aboard");
        Edges.due(SHOP + " | leave 1", "sell 1 0 1", NOT_POSSIBLE);
        Edges.due(SHOP + " | leave 1", "sell 0 0 1", 1);
        Edges.due(SHOP + " | leave 1 | back 1 0", "sell 1 0 1", 1);
        Edges.due(SHOP + " | dismiss 1", "sell 1 0 1", NOT_POSSIBLE);
        Edges.due(SHOP + " | leave 1 | sail", "sell 1 0 1", NOT_POSSIBLE);
        Edges.sentence("4: NOT_POSSIBLE for the reason 2: there are too few in stock");
        Edges.due("sign 0 0 | stock 0 7 1", "sell 0 0 7", 7);
        Edges.due("sign 0 0 | stock 0 7 1", "sell 0 0 8", NOT_POSSIBLE);
        Edges.due("sign 0 0 | stock 0 7 1 | sell 0 0 7", "sell 0 0 1", NOT_POSSIBLE);
        Edges.due("sign 0 0 | stock 0 7 1", "sell 0 1 1", NOT_POSSIBLE);
        Edges.sentence("4: NOT_POSSIBLE for the reason 3: the balance would be less than 0 less setting 0");
        Edges.due(SHOP, "sell 0 0 50", 50);
        Edges.due(SHOP, "sell 0 0 51", NOT_POSSIBLE);
        Edges.due(SHOP, "sell 0 1 1", 50);
        Edges.due(SHOP, "sell 0 1 2", NOT_POSSIBLE);
    }

    private static void sellBounds() {
        Edges.sentence("4: the bound of debts may be 0");
        Edges.due(SHOP + " | set 0 0", "sell 0 0 1", NOT_POSSIBLE);
        Edges.due(SHOP + " | set 0 0 | days 2", "sell 0 0 1", 1);
        Edges.due(SHOP + " | set 0 0 | days 2", "sell 0 0 2", NOT_POSSIBLE);
        Edges.sentence("4: the bound of debts may be 500");
        Edges.due(SHOP + " | set 0 500", "sell 0 1 10", 500);
        Edges.due(SHOP + " | set 0 500 | sell 0 1 9", "sell 0 0 50", 50);
        Edges.due(SHOP + " | set 0 500 | sell 0 1 9", "sell 0 0 51", NOT_POSSIBLE);
        Edges.sentence("4: a balance may be below the bound already");
        Edges.due(SHOP + " | fine 0 50", "sell 0 0 1", NOT_POSSIBLE);
        Edges.due(SHOP + " | fine 0 49", "sell 0 0 1", 1);
        Edges.due(SHOP + " | sell 0 0 50 | set 0 40 | days 18", "sell 0 0 1", NOT_POSSIBLE);
        Edges.sentence("4: also at sea");
        Edges.due(SHOP + " | sail", "sell 0 0 50", 50);
        Edges.due(SHOP + " | sail", "sell 0 0 51", NOT_POSSIBLE);
    }

    private static void sellAccounts() {
        String sold = SHOP + " | sell 1 1 1 | days 4 | sell 1 0 2";
        Edges.sentence("4: returns what is charged: on account, to that sailor");
        Edges.due(sold, "sell 0 0 3", 3);
        Edges.due(sold, "sailor 1 8", 52);
        Edges.due(sold, "sailor 1 3", 9950);
        Edges.due(sold, "sailor 1 4", 9950);
        Edges.due(sold, "sailor 0 8", 0);
        Edges.due(sold, "count 13", 52);
        Edges.due("sign 0 0 | stock 0 9 1 | sell 0 0 3", "count 8", 491);
        Edges.sentence("4: from the chest");
        Edges.dueInRow(sold, "item 0", 97, 1, 99, 2, 2);
        Edges.dueInRow(sold, "item 1", 98, 50, 99, 1, 50);
        Edges.sentence("The book: an entry 0");
        Edges.dueInRow(sold, "book 0", 1, 0, 2);
        Edges.dueInRow(sold, "book 1", 1, 0, 50);
    }
}
