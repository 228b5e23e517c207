/** Promises 1 to 4: a new object, sign, stock, sell. */
public final class CrewAndChestTest {
    public static void main(String[] args) {
        sign();
        stock();
        sell();
        Due.end("CrewAndChestTest");
    }

    private static void sign() {
        PurserLedgers x = new PurserLedgers();
        Due.is("sign", x.sign(0, 1), 0);
        Due.is("sign", x.sign(3, 0), 1);
        Due.is("sign", x.sign(2, 1), 2);
        Due.is("rank", x.sailor(1, 0), 3);
        Due.is("watch", x.sailor(1, 1), 0);
        Due.is("watch", x.sailor(2, 1), 1);
        Due.is("aboard", x.sailor(2, 2), 0);
        Due.is("sailors", x.count(4), 3);
        Due.is("set aboard", x.count(5), 7);
        x.days(4);
        Due.is("one who comes later", x.sign(1, 0), 3);
        Due.is("has no days yet", x.sailor(3, 6), 0);
        x.days(1);
        Due.is("has one day", x.sailor(3, 6), 1);
        Due.is("the first one has five", x.sailor(0, 6), 5);
        Due.is("those who are gone keep their number", x.dismiss(0), 2);
        Due.is("so that the next is", x.sign(1, 0), 4);
    }

    private static void stock() {
        PurserLedgers x = new PurserLedgers();
        Due.is("13 and 3", x.stock(0, 2, 13), 16);
        Due.is("stock", x.item(0, 0), 2);
        Due.is("bought", x.item(0, 2), 2);
        Due.is("3 and 0", x.stock(0, 5, 3), 3);
        Due.is("the price of all is changed", x.item(0, 1), 3);
        Due.is("stock", x.item(0, 0), 7);
        Due.is("bought", x.item(0, 2), 7);
        Due.is("another item", x.item(1, 1), 0);
        Due.is("cash", x.count(8), 459);
        Due.is("spent", x.count(10), 41);
        Due.is("set 1 to 0", x.set(1, 0), 25);
        Due.is("the price stays", x.item(0, 1), 3);
        Due.is("nothing put on", x.stock(5, 1, 99), 99);
        x.set(1, 200);
        Due.is("200 hundredths", x.stock(5, 1, 99), 297);
        x.set(1, 199);
        Due.is("99 and 197", x.stock(5, 1, 99), 296);
        x.set(1, 1);
        Due.is("99 and 0", x.stock(5, 1, 99), 99);
        Due.is("1 and 0", x.stock(4, 1, 1), 1);
    }

    private static void sell() {
        PurserLedgers x = new PurserLedgers();
        x.sign(1, 0);
        x.sign(1, 1);
        x.stock(2, 10, 8);
        Due.is("3 at 10", x.sell(1, 2, 3), 30);
        Due.is("balance", x.sailor(1, 3), 9970);
        Due.is("charged for the chest", x.sailor(1, 8), 30);
        Due.is("the other sailor", x.sailor(0, 8), 0);
        Due.is("stock", x.item(2, 0), 7);
        Due.is("price", x.item(2, 1), 10);
        Due.is("bought", x.item(2, 2), 10);
        Due.is("sold", x.item(2, 3), 3);
        Due.is("charged for it", x.item(2, 4), 30);
        Due.is("charged for the chest", x.count(13), 30);
        Due.is("no cash", x.count(8), 420);
        Due.is("entry: sailor", x.book(0, 0), 1);
        Due.is("entry: from the chest", x.book(0, 1), 0);
        Due.is("entry: coins", x.book(0, 2), 30);
        x.sail();
        Due.is("at sea, down to the bound", x.sell(1, 2, 2), 20);
        Due.is("below the bound", x.sell(1, 2, 1), Due.NOT_POSSIBLE);
        x.days(4);
        Due.is("still below it", x.sell(1, 2, 1), Due.NOT_POSSIBLE);
        x.days(1);
        Due.is("on it", x.sell(1, 2, 1), 10);
        Due.is("charged for it", x.item(2, 4), 60);
        Due.is("the rest", x.sell(0, 2, 4), 40);
        Due.is("the price stays", x.item(2, 1), 10);
        Due.is("nothing is in stock", x.item(2, 0), 0);
    }
}
