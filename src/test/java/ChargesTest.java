/** Promises 5 to 7: advance, fine, fineWatch. */
public final class ChargesTest {
    public static void main(String[] args) {
        advance();
        fine();
        fineWatch();
        Due.end("ChargesTest");
    }

    private static void advance() {
        PurserLedgers x = new PurserLedgers();
        x.sign(3, 0);
        x.sign(3, 1);
        x.days(10);
        Due.is("cash then", x.advance(0, 5), 495);
        Due.is("advances", x.sailor(0, 10), 5);
        Due.is("balance", x.sailor(0, 3), 10015);
        Due.is("advanced so far", x.count(11), 5);
        Due.is("not paid", x.count(12), 0);
        Due.is("not paid", x.sailor(0, 12), 0);
        Due.is("entry: sailor", x.book(0, 0), 0);
        Due.is("entry: advance", x.book(0, 1), 2);
        Due.is("entry: coins", x.book(0, 2), 5);
        Due.is("more than the balance", x.advance(0, 16), Due.NOT_POSSIBLE);
        Due.is("all the balance", x.advance(0, 15), 480);
        Due.is("nothing is left", x.advance(0, 1), Due.NOT_POSSIBLE);
        x.leave(1);
        Due.is("on leave", x.advance(1, 20), 460);
        Due.is("advanced so far", x.count(11), 40);
    }

    private static void fine() {
        PurserLedgers x = new PurserLedgers();
        x.sign(1, 0);
        x.sign(1, 1);
        x.days(30);
        Due.is("fine", x.fine(0, 7), 5023);
        Due.is("below 0", x.fine(0, 33), 4990);
        Due.is("fines", x.sailor(0, 9), 40);
        Due.is("fines so far", x.count(14), 40);
        Due.is("no cash", x.count(8), 500);
        Due.is("entry: sailor", x.book(0, 0), 0);
        Due.is("entry: fine", x.book(0, 1), 1);
        Due.is("entry: coins", x.book(0, 2), 33);
        x.leave(1);
        Due.is("on leave", x.fine(1, 1), 5029);
        x.back(1, 0);
        x.sail();
        Due.is("at sea", x.fine(1, 1), 5028);
        Due.is("fines so far", x.count(14), 42);
    }

    private static void fineWatch() {
        PurserLedgers x = new PurserLedgers();
        x.sign(0, 1);
        x.sign(0, 0);
        x.sign(0, 1);
        x.sign(0, 1);
        x.sign(0, 1);
        x.dismiss(2);
        Due.is("three of them", x.fineWatch(1, 11), 3);
        Due.is("4", x.sailor(0, 9), 4);
        Due.is("of the other watch", x.sailor(1, 9), 0);
        Due.is("gone", x.sailor(2, 9), 0);
        Due.is("4", x.sailor(3, 9), 4);
        Due.is("3", x.sailor(4, 9), 3);
        Due.is("fines so far", x.count(14), 11);
        Due.is("entries", x.count(16), 3);
        Due.is("the latest one", x.book(0, 0), 4);
        Due.is("the latest one", x.book(0, 1), 1);
        Due.is("the latest one", x.book(0, 2), 3);
        Due.is("the one before", x.book(1, 0), 3);
        Due.is("the one before", x.book(1, 2), 4);
        Due.is("the first one", x.book(2, 0), 0);
        Due.is("fewer coins than sailors", x.fineWatch(1, 1), 3);
        Due.is("5", x.sailor(0, 9), 5);
        Due.is("4", x.sailor(3, 9), 4);
        Due.is("no entry of 0 coins", x.count(16), 4);
        x.leave(1);
        Due.is("on leave", x.fineWatch(1, 3), 3);
        Due.is("5", x.sailor(3, 9), 5);
        x.back(0, 0);
        Due.is("partly back", x.fineWatch(1, 3), 3);
        x.sail();
        Due.is("at sea, two are left behind", x.fineWatch(1, 2), 1);
        Due.is("the other watch", x.fineWatch(0, 999), 1);
        Due.is("999", x.sailor(1, 9), 999);
    }
}
