/** Promises 5 to 7: advance, fine, fineWatch. */
public final class ChargesTest {
    public static void main(String[] args) {
        advance();
        advanceRefusals();
        advanceDraws();
        fine();
        fineRefusals();
        fineWatch();
        fineWatchRefusals();
        Due.end("ChargesTest");
    }

    private static void advance() {
        PurserLedgers x = new PurserLedgers();
        x.sign(3, 0);
        x.sign(3, 1);
        x.days(10);
        Due.is("cash then", x.advance(0, 5), 495);
        Due.is("advances", x.sailor(0, 10), 5);
        Due.is("balance", x.sailor(0, 3), 10015);
        Due.is("advanced so far", x.count(11), 5);
        Due.is("not paid", x.count(12), 0);
        Due.is("not paid", x.sailor(0, 12), 0);
        Due.is("entry: sailor", x.book(0, 0), 0);
        Due.is("entry: advance", x.book(0, 1), 2);
        Due.is("entry: coins", x.book(0, 2), 5);
        Due.is("more than the balance", x.advance(0, 16), Due.NOT_POSSIBLE);
        Due.is("all the balance", x.advance(0, 15), 480);
        Due.is("nothing is left", x.advance(0, 1), Due.NOT_POSSIBLE);
        x.leave(1);
        Due.is("on leave", x.advance(1, 20), 460);
        Due.is("advanced so far", x.count(11), 40);
    }

    private static void advanceRefusals() {
        PurserLedgers x = new PurserLedgers();
        Due.is("no sailor", x.advance(0, 1), Due.INVALID);
        x.sign(3, 0);
        x.sign(3, 1);
        x.days(10);
        Due.is("sailor -1", x.advance(-1, 1), Due.INVALID);
        Due.is("sailor 2", x.advance(2, 1), Due.INVALID);
        Due.is("coins 0", x.advance(0, 0), Due.INVALID);
        Due.is("coins 1000", x.advance(0, 1000), Due.INVALID);
        Due.is("coins 999", x.advance(0, 999), Due.NOT_POSSIBLE);
        x.dismiss(1);
        Due.is("gone", x.advance(1, 1), Due.NOT_POSSIBLE);
        x.sail();
        Due.is("at sea", x.advance(0, 1), Due.NOT_POSSIBLE);
        Due.is("invalid rather than not possible", x.advance(0, 0), Due.INVALID);
    }

    private static void advanceDraws() {
        PurserLedgers x = new PurserLedgers();
        x.sign(3, 0);
        x.stock(0, 49, 10);
        x.days(10);
        Due.is("cash is used up", x.advance(0, 13), 0);
        Due.is("what is missing is drawn", x.count(9), 3);
        Due.is("all is drawn", x.advance(0, 2), 0);
        Due.is("all is drawn", x.count(9), 5);
    }

    private static void fine() {
        PurserLedgers x = new PurserLedgers();
        x.sign(1, 0);
        x.sign(1, 1);
        x.days(30);
        Due.is("fine", x.fine(0, 7), 5023);
        Due.is("below 0", x.fine(0, 33), 4990);
        Due.is("fines", x.sailor(0, 9), 40);
        Due.is("fines so far", x.count(14), 40);
        Due.is("no cash", x.count(8), 500);
        Due.is("entry: sailor", x.book(0, 0), 0);
        Due.is("entry: fine", x.book(0, 1), 1);
        Due.is("entry: coins", x.book(0, 2), 33);
        x.leave(1);
        Due.is("on leave", x.fine(1, 1), 5029);
        x.back(1, 0);
        x.sail();
        Due.is("at sea", x.fine(1, 1), 5028);
        Due.is("fines so far", x.count(14), 42);
    }

    private static void fineRefusals() {
        PurserLedgers x = new PurserLedgers();
        Due.is("no sailor", x.fine(0, 1), Due.INVALID);
        x.sign(1, 0);
        x.sign(1, 1);
        Due.is("sailor -1", x.fine(-1, 1), Due.INVALID);
        Due.is("sailor 2", x.fine(2, 1), Due.INVALID);
        Due.is("coins 0", x.fine(0, 0), Due.INVALID);
        Due.is("coins 1000", x.fine(0, 1000), Due.INVALID);
        x.dismiss(1);
        Due.is("gone", x.fine(1, 1), Due.NOT_POSSIBLE);
        Due.is("gone, invalid coins", x.fine(1, 0), Due.INVALID);
        for (int k = 1; k <= 4; k++) {
            Due.is("999", x.fine(0, 999), 5000 - k * 999);
        }
        Due.is("below -4000", x.fine(0, 5), Due.NOT_POSSIBLE);
        Due.is("-4000", x.fine(0, 4), 1000);
        Due.is("below -4000", x.fine(0, 1), Due.NOT_POSSIBLE);
        Due.is("balance", x.sailor(0, 4), 6000);
        x.days(1);
        Due.is("a day later", x.fine(0, 1), 1000);
    }

    private static void fineWatch() {
        PurserLedgers x = new PurserLedgers();
        x.sign(0, 1);
        x.sign(0, 0);
        x.sign(0, 1);
        x.sign(0, 1);
        x.sign(0, 1);
        x.dismiss(2);
        Due.is("three of them", x.fineWatch(1, 11), 3);
        Due.is("4", x.sailor(0, 9), 4);
        Due.is("of the other watch", x.sailor(1, 9), 0);
        Due.is("gone", x.sailor(2, 9), 0);
        Due.is("4", x.sailor(3, 9), 4);
        Due.is("3", x.sailor(4, 9), 3);
        Due.is("fines so far", x.count(14), 11);
        Due.is("entries", x.count(16), 3);
        Due.is("the latest one", x.book(0, 0), 4);
        Due.is("the latest one", x.book(0, 1), 1);
        Due.is("the latest one", x.book(0, 2), 3);
        Due.is("the one before", x.book(1, 0), 3);
        Due.is("the one before", x.book(1, 2), 4);
        Due.is("the first one", x.book(2, 0), 0);
        Due.is("fewer coins than sailors", x.fineWatch(1, 1), 3);
        Due.is("5", x.sailor(0, 9), 5);
        Due.is("4", x.sailor(3, 9), 4);
        Due.is("no entry of 0 coins", x.count(16), 4);
        x.leave(1);
        Due.is("on leave", x.fineWatch(1, 3), 3);
        Due.is("5", x.sailor(3, 9), 5);
        x.back(0, 0);
        Due.is("partly back", x.fineWatch(1, 3), 3);
        x.sail();
        Due.is("at sea, two are left behind", x.fineWatch(1, 2), 1);
        Due.is("the other watch", x.fineWatch(0, 999), 1);
        Due.is("999", x.sailor(1, 9), 999);
    }

    private static void fineWatchRefusals() {
        PurserLedgers x = new PurserLedgers();
        Due.is("nobody", x.fineWatch(0, 1), Due.NOT_POSSIBLE);
        Due.is("watch -1", x.fineWatch(-1, 1), Due.INVALID);
        Due.is("watch 2", x.fineWatch(2, 1), Due.INVALID);
        Due.is("coins 0", x.fineWatch(0, 0), Due.INVALID);
        Due.is("coins 1000", x.fineWatch(0, 1000), Due.INVALID);
        x.sign(0, 0);
        x.sign(0, 0);
        Due.is("nobody in this watch", x.fineWatch(1, 1), Due.NOT_POSSIBLE);
        for (int k = 0; k < 4; k++) {
            x.fine(1, 999);
        }
        Due.is("4 and 4", x.fineWatch(0, 8), 2);
        String before = Due.told(x);
        Due.is("2 and 1: the second one cannot", x.fineWatch(0, 3), Due.NOT_POSSIBLE);
        Due.same("nobody is fined", Due.told(x), before);
        Due.is("1 and 0: the second one needs not", x.fineWatch(0, 1), 2);
        Due.is("balance of the first", x.sailor(0, 3), 9995);
        Due.is("balance of the second", x.sailor(1, 3), 6000);
        x.sign(0, 1);
        x.sign(0, 1);
        for (int k = 0; k < 4; k++) {
            x.fine(2, 999);
        }
        Due.is("3 and 3", x.fineWatch(1, 6), 2);
        Due.is("1 coin for the first, on -4000", x.fineWatch(1, 1), 2);
        Due.is("1 coin for the first, below", x.fineWatch(1, 1), Due.NOT_POSSIBLE);
        Due.is("balance of the first", x.sailor(2, 3), 6000);
    }
}
