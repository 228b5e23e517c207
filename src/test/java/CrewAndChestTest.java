/** Promises 1 to 4: a new object, sign, stock, sell. */
public final class CrewAndChestTest {
    public static void main(String[] args) {
        newObject();
        sign();
        signLimits();
        stock();
        stockLimits();
        stockTakesCash();
        sell();
        sellRefusals();
        Due.end("CrewAndChestTest");
    }

    private static void newObject() {
        PurserLedgers x = new PurserLedgers();
        int[] due = {0, 0, 0, 0, 0, 0, 0, 0, 500, 0, 0, 0, 0, 0, 0, 100000, 0, 0, 0, -1000001, 50, 25, 2};
        for (int what = 0; what < due.length; what++) {
            Due.is("new count " + what, x.count(what), due[what]);
        }
        for (int item = 0; item < 6; item++) {
            for (int what = 0; what < 5; what++) {
                Due.is("new item " + item + " " + what, x.item(item, what), 0);
            }
        }
        Due.is("new sailor", x.sailor(0, 0), Due.INVALID);
        Due.is("new book", x.book(0, 0), Due.NOT_FOUND);
        Due.is("new undo", x.undo(), Due.NOT_POSSIBLE);
        Due.is("new port", x.port(), Due.NOT_POSSIBLE);
        Due.is("new sail", x.sail(), 0);
        Due.is("two objects have nothing to do with each other", new PurserLedgers().count(1), 0);
    }

    private static void sign() {
        PurserLedgers x = new PurserLedgers();
        Due.is("sign", x.sign(0, 1), 0);
        Due.is("sign", x.sign(3, 0), 1);
        Due.is("sign", x.sign(2, 1), 2);
        Due.is("rank", x.sailor(1, 0), 3);
        Due.is("watch", x.sailor(1, 1), 0);
        Due.is("watch", x.sailor(2, 1), 1);
        Due.is("aboard", x.sailor(2, 2), 0);
        Due.is("sailors", x.count(4), 3);
        Due.is("set aboard", x.count(5), 7);
        x.days(4);
        Due.is("one who comes later", x.sign(1, 0), 3);
        Due.is("has no days yet", x.sailor(3, 6), 0);
        x.days(1);
        Due.is("has one day", x.sailor(3, 6), 1);
        Due.is("the first one has five", x.sailor(0, 6), 5);
        Due.is("those who are gone keep their number", x.dismiss(0), 2);
        Due.is("so that the next is", x.sign(1, 0), 4);
    }

    private static void signLimits() {
        PurserLedgers x = new PurserLedgers();
        Due.is("rank -1", x.sign(-1, 0), Due.INVALID);
        Due.is("rank 4", x.sign(4, 0), Due.INVALID);
        Due.is("watch -1", x.sign(0, -1), Due.INVALID);
        Due.is("watch 2", x.sign(0, 2), Due.INVALID);
        x.sail();
        Due.is("at sea", x.sign(0, 0), Due.NOT_POSSIBLE);
        Due.is("invalid rather than not possible", x.sign(4, 0), Due.INVALID);
        x.port();
        for (int k = 0; k < 16; k++) {
            Due.is("sign", x.sign(k % 4, k % 2), k);
        }
        Due.is("17th", x.sign(0, 0), Due.LIMIT);
        Due.is("invalid rather than limit", x.sign(0, 2), Due.INVALID);
        Due.is("set aboard", x.count(5), 65535);
        x.dismiss(3);
        Due.is("17th, though one is gone", x.sign(0, 0), Due.LIMIT);
        x.sail();
        Due.is("not possible rather than limit", x.sign(0, 0), Due.NOT_POSSIBLE);
        Due.is("sailors", x.count(4), 16);
    }

    private static void stock() {
        PurserLedgers x = new PurserLedgers();
        Due.is("13 and 3", x.stock(0, 2, 13), 16);
        Due.is("stock", x.item(0, 0), 2);
        Due.is("bought", x.item(0, 2), 2);
        Due.is("3 and 0", x.stock(0, 5, 3), 3);
        Due.is("the price of all is changed", x.item(0, 1), 3);
        Due.is("stock", x.item(0, 0), 7);
        Due.is("bought", x.item(0, 2), 7);
        Due.is("another item", x.item(1, 1), 0);
        Due.is("cash", x.count(8), 459);
        Due.is("spent", x.count(10), 41);
        Due.is("set 1 to 0", x.set(1, 0), 25);
        Due.is("the price stays", x.item(0, 1), 3);
        Due.is("nothing put on", x.stock(5, 1, 99), 99);
        x.set(1, 200);
        Due.is("200 hundredths", x.stock(5, 1, 99), 297);
        x.set(1, 199);
        Due.is("99 and 197", x.stock(5, 1, 99), 296);
        x.set(1, 1);
        Due.is("99 and 0", x.stock(5, 1, 99), 99);
        Due.is("1 and 0", x.stock(4, 1, 1), 1);
    }

    private static void stockLimits() {
        PurserLedgers x = new PurserLedgers();
        Due.is("item -1", x.stock(-1, 1, 1), Due.INVALID);
        Due.is("item 6", x.stock(6, 1, 1), Due.INVALID);
        Due.is("many 0", x.stock(0, 0, 1), Due.INVALID);
        Due.is("many 100", x.stock(0, 100, 1), Due.INVALID);
        Due.is("cost 0", x.stock(0, 1, 0), Due.INVALID);
        Due.is("cost 100", x.stock(0, 1, 100), Due.INVALID);
        for (int k = 0; k < 5; k++) {
            Due.is("99", x.stock(3, 99, 1), 1);
        }
        Due.is("6 more", x.stock(3, 6, 7), Due.LIMIT);
        Due.is("the price is as before", x.item(3, 1), 1);
        Due.is("5 more", x.stock(3, 5, 1), 1);
        Due.is("stock", x.item(3, 0), 500);
        Due.is("1 more", x.stock(3, 1, 1), Due.LIMIT);
        Due.is("invalid rather than limit", x.stock(3, 1, 0), Due.INVALID);
        Due.is("another item", x.stock(2, 1, 1), 1);
        x.sail();
        Due.is("at sea", x.stock(2, 1, 1), Due.NOT_POSSIBLE);
        Due.is("not possible rather than limit", x.stock(3, 1, 1), Due.NOT_POSSIBLE);
        Due.is("invalid rather than not possible", x.stock(6, 1, 1), Due.INVALID);
        x.port();
        x.sign(0, 0);
        x.sell(0, 3, 3);
        Due.is("3 were sold", x.stock(3, 4, 1), Due.LIMIT);
        Due.is("3 were sold", x.stock(3, 3, 1), 1);
    }

    private static void stockTakesCash() {
        PurserLedgers x = new PurserLedgers();
        x.stock(0, 50, 9);
        Due.is("cash", x.count(8), 50);
        x.stock(0, 1, 50);
        Due.is("all the cash", x.count(8), 0);
        Due.is("nothing was missing", x.count(9), 0);
        x.stock(1, 2, 3);
        Due.is("drawn", x.count(9), 6);
        Due.is("cash", x.count(8), 0);
        PurserLedgers y = new PurserLedgers();
        y.stock(0, 99, 99);
        Due.is("drawn", y.count(9), 9301);
        Due.is("cash", y.count(8), 0);
        Due.is("spent", y.count(10), 9801);
        y.stock(0, 1, 1);
        Due.is("drawn", y.count(9), 9302);
    }

    private static void sell() {
        PurserLedgers x = new PurserLedgers();
        x.sign(1, 0);
        x.sign(1, 1);
        x.stock(2, 10, 8);
        Due.is("3 at 10", x.sell(1, 2, 3), 30);
        Due.is("balance", x.sailor(1, 3), 9970);
        Due.is("charged for the chest", x.sailor(1, 8), 30);
        Due.is("the other sailor", x.sailor(0, 8), 0);
        Due.is("stock", x.item(2, 0), 7);
        Due.is("price", x.item(2, 1), 10);
        Due.is("bought", x.item(2, 2), 10);
        Due.is("sold", x.item(2, 3), 3);
        Due.is("charged for it", x.item(2, 4), 30);
        Due.is("charged for the chest", x.count(13), 30);
        Due.is("no cash", x.count(8), 420);
        Due.is("entry: sailor", x.book(0, 0), 1);
        Due.is("entry: from the chest", x.book(0, 1), 0);
        Due.is("entry: coins", x.book(0, 2), 30);
        x.sail();
        Due.is("at sea, down to the bound", x.sell(1, 2, 2), 20);
        Due.is("below the bound", x.sell(1, 2, 1), Due.NOT_POSSIBLE);
        x.days(4);
        Due.is("still below it", x.sell(1, 2, 1), Due.NOT_POSSIBLE);
        x.days(1);
        Due.is("on it", x.sell(1, 2, 1), 10);
        Due.is("charged for it", x.item(2, 4), 60);
        Due.is("the rest", x.sell(0, 2, 4), 40);
        Due.is("the price stays", x.item(2, 1), 10);
        Due.is("nothing is in stock", x.item(2, 0), 0);
    }

    private static void sellRefusals() {
        PurserLedgers x = new PurserLedgers();
        Due.is("no sailor", x.sell(0, 0, 1), Due.INVALID);
        x.sign(0, 0);
        x.sign(0, 1);
        x.stock(0, 20, 1);
        x.stock(1, 99, 40);
        Due.is("sailor -1", x.sell(-1, 0, 1), Due.INVALID);
        Due.is("sailor 2", x.sell(2, 0, 1), Due.INVALID);
        Due.is("item -1", x.sell(0, -1, 1), Due.INVALID);
        Due.is("item 6", x.sell(0, 6, 1), Due.INVALID);
        Due.is("many 0", x.sell(0, 0, 0), Due.INVALID);
        Due.is("many 100", x.sell(0, 0, 100), Due.INVALID);
        Due.is("too few", x.sell(0, 0, 21), Due.NOT_POSSIBLE);
        Due.is("none", x.sell(0, 5, 1), Due.NOT_POSSIBLE);
        Due.is("below the bound", x.sell(0, 1, 2), Due.NOT_POSSIBLE);
        x.leave(1);
        Due.is("on leave", x.sell(1, 0, 1), Due.NOT_POSSIBLE);
        Due.is("invalid rather than not possible", x.sell(1, 0, 0), Due.INVALID);
        x.sail();
        Due.is("gone", x.sell(1, 0, 1), Due.NOT_POSSIBLE);
        x.set(0, 0);
        Due.is("without debts", x.sell(0, 0, 1), Due.NOT_POSSIBLE);
        x.days(2);
        Due.is("down to 0", x.sell(0, 0, 1), 1);
        x.set(0, 500);
        Due.is("down to 500 of debt", x.sell(0, 1, 10), 500);
        Due.is("and no further", x.sell(0, 0, 1), Due.NOT_POSSIBLE);
        x.set(0, 499);
        x.days(1);
        Due.is("a smaller bound then", x.sell(0, 0, 1), Due.NOT_POSSIBLE);
    }
}
