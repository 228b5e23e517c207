/** Promises 8 to 15: leave, back, sail, port, days, dismiss, payOff, set. */
public final class ShipTest {
    public static void main(String[] args) {
        leave();
        back();
        sail();
        port();
        days();
        dismiss();
        payOff();
        payOffCarriesDebts();
        set();
        Due.end("ShipTest");
    }

    private static PurserLedgers twoOfEach() {
        PurserLedgers x = new PurserLedgers();
        x.sign(1, 0);
        x.sign(1, 1);
        x.sign(3, 0);
        x.sign(3, 1);
        return x;
    }

    private static void leave() {
        PurserLedgers x = new PurserLedgers();
        Due.is("nobody", x.leave(0), Due.NOT_POSSIBLE);
        Due.is("watch -1", x.leave(-1), Due.INVALID);
        Due.is("watch 2", x.leave(2), Due.INVALID);
        x = twoOfEach();
        Due.is("two go", x.leave(1), 2);
        Due.is("on leave", x.count(6), 10);
        Due.is("aboard", x.count(5), 5);
        Due.is("on leave", x.sailor(3, 2), 1);
        Due.is("aboard", x.sailor(2, 2), 0);
        Due.is("the same watch", x.leave(1), Due.NOT_POSSIBLE);
        Due.is("the other watch", x.leave(0), Due.NOT_POSSIBLE);
        Due.is("invalid rather than not possible", x.leave(2), Due.INVALID);
        x.back(1, 0);
        Due.is("one is still on leave", x.leave(1), Due.NOT_POSSIBLE);
        x.dismiss(3);
        Due.is("nobody is on leave now", x.leave(1), 1);
        Due.is("one who is gone does not go", x.count(6), 2);
        x.back(1, 0);
        x.dismiss(1);
        Due.is("all of it are gone", x.leave(1), Due.NOT_POSSIBLE);
        Due.is("the other watch", x.leave(0), 2);
        x.back(0, 0);
        x.back(2, 0);
        x.sail();
        Due.is("at sea", x.leave(0), Due.NOT_POSSIBLE);
        Due.is("at sea, invalid", x.leave(2), Due.INVALID);
    }

    private static void back() {
        PurserLedgers x = twoOfEach();
        x.leave(0);
        Due.is("3 hours", x.back(0, 3), 6);
        Due.is("aboard", x.sailor(0, 2), 0);
        Due.is("fines", x.sailor(0, 9), 6);
        Due.is("fines so far", x.count(14), 6);
        Due.is("entry: a fine", x.book(0, 1), 1);
        Due.is("entry: coins", x.book(0, 2), 6);
        Due.is("entry: sailor", x.book(0, 0), 0);
        Due.is("in time", x.back(2, 0), 0);
        Due.is("no entry", x.count(16), 1);
        x.leave(0);
        x.set(2, 50);
        Due.is("99 hours at 50", x.back(2, 99), Due.NOT_POSSIBLE);
        Due.is("80 hours at 50", x.back(2, 80), 4000);
        x.set(2, 0);
        Due.is("99 hours at 0", x.back(0, 99), 0);
        Due.is("no entry", x.count(16), 2);
    }

    private static void sail() {
        PurserLedgers x = twoOfEach();
        x.days(10);
        x.fine(0, 35);
        x.leave(0);
        Due.is("two are left behind", x.sail(), 2);
        Due.is("at sea", x.count(1), 1);
        Due.is("gone", x.count(7), 5);
        Due.is("nobody is on leave", x.count(6), 0);
        Due.is("aboard", x.count(5), 10);
        Due.is("forfeit: 20 and -25", x.count(15), 99995);
        Due.is("balance of one who is gone", x.sailor(2, 3), 10000);
        Due.is("nothing is paid", x.sailor(2, 12), 0);
        Due.is("no cash", x.count(8), 500);
        Due.is("at sea", x.sail(), Due.NOT_POSSIBLE);
        x.port();
        Due.is("nobody is left behind", x.sail(), 0);
        x.port();
        x.leave(1);
        x.back(1, 0);
        x.days(5);
        Due.is("one is left behind", x.sail(), 1);
        Due.is("forfeit: 30 more", x.count(15), 100025);
        Due.is("gone", x.count(7), 13);
    }

    private static void port() {
        PurserLedgers x = twoOfEach();
        Due.is("in port", x.port(), Due.NOT_POSSIBLE);
        x.sail();
        Due.is("first", x.port(), 1);
        Due.is("in port", x.count(1), 0);
        Due.is("in port", x.port(), Due.NOT_POSSIBLE);
        x.sail();
        Due.is("second", x.port(), 2);
        x.days(1);
        x.payOff();
        x.sail();
        Due.is("third, on the next voyage", x.port(), 3);
        Due.is("ports", x.count(3), 3);
    }

    private static void days() {
        PurserLedgers x = twoOfEach();
        x.sign(0, 0);
        x.sign(2, 0);
        Due.is("days 0", x.days(0), Due.INVALID);
        Due.is("days -1", x.days(-1), Due.INVALID);
        Due.is("days 100", x.days(100), Due.INVALID);
        Due.is("in port", x.days(3), 3);
        x.sail();
        Due.is("at sea", x.days(18), 21);
        Due.is("at sea", x.sailor(0, 5), 18);
        Due.is("in port", x.sailor(0, 6), 3);
        Due.is("a hand: 2 * 18 and 3", x.sailor(0, 7), 39);
        Due.is("a mate: 4 * 18 and 2 * 3", x.sailor(2, 7), 78);
        Due.is("a boy: 21 / 2", x.sailor(4, 7), 10);
        Due.is("a cook: 2 * 21 and 21 / 7", x.sailor(5, 7), 45);
        x.port();
        x.leave(1);
        Due.is("in port", x.days(6), 27);
        Due.is("on leave", x.sailor(1, 6), 9);
        Due.is("a cook: 2 * 27 and 27 / 7", x.sailor(5, 7), 57);
        x.dismiss(5);
        x.sail();
        x.days(1);
        Due.is("gone", x.sailor(5, 5), 0);
        Due.is("gone", x.sailor(1, 5), 0);
        Due.is("aboard", x.sailor(0, 5), 19);
        Due.is("days of the voyage", x.count(2), 28);
    }

    private static void dismiss() {
        PurserLedgers x = twoOfEach();
        x.days(20);
        x.advance(2, 6);
        Due.is("20 * 2 - 6", x.dismiss(2), 34);
        Due.is("gone", x.sailor(2, 2), 2);
        Due.is("balance", x.sailor(2, 3), 10000);
        Due.is("balance", x.sailor(2, 4), 10000);
        for (int what = 5; what <= 11; what++) {
            Due.is("gone " + what, x.sailor(2, what), 0);
        }
        Due.is("rank", x.sailor(2, 0), 3);
        Due.is("watch", x.sailor(2, 1), 0);
        Due.is("paid", x.sailor(2, 12), 34);
        Due.is("paid so far", x.count(12), 34);
        Due.is("cash", x.count(8), 460);
        Due.is("entry: sailor", x.book(0, 0), 2);
        Due.is("entry: paid", x.book(0, 1), 3);
        Due.is("entry: coins", x.book(0, 2), 34);
        Due.is("nothing is forfeit", x.count(15), 100000);
        x.leave(1);
        Due.is("on leave", x.dismiss(1), 20);
        Due.is("on leave", x.count(6), 8);
        x.advance(0, 20);
        int entries = x.count(16);
        Due.is("with nothing", x.dismiss(0), 0);
        Due.is("no entry", x.count(16), entries);
    }

    private static void payOff() {
        PurserLedgers x = twoOfEach();
        x.stock(0, 10, 40);
        x.days(30);
        x.fine(0, 10);
        x.leave(1);
        Due.is("20, 30, 60 and 60", x.payOff(), 170);
        Due.is("voyage", x.count(0), 1);
        Due.is("days", x.count(2), 0);
        Due.is("drawn", x.count(9), 70);
        Due.is("cash", x.count(8), 0);
        Due.is("paid so far", x.count(12), 170);
        Due.is("they stay on leave", x.count(6), 10);
        Due.is("they stay aboard", x.count(5), 5);
        Due.is("by the numbers", x.book(0, 0), 3);
        Due.is("by the numbers", x.book(3, 0), 0);
        Due.is("20 for the first", x.book(3, 2), 20);
        Due.is("paid", x.book(3, 1), 3);
        Due.is("the fine ahead of it", x.book(4, 1), 1);
        for (int k = 0; k < 4; k++) {
            for (int what = 5; what <= 11; what++) {
                Due.is("next voyage " + k + " " + what, x.sailor(k, what), 0);
            }
            Due.is("balance", x.sailor(k, 3), 10000);
            Due.is("balance", x.sailor(k, 4), 10000);
        }
        Due.is("paid so far", x.sailor(2, 12), 60);
        Due.is("fines so far", x.count(14), 10);
        x.days(1);
        x.fine(3, 2);
        Due.is("1, 1, 2 and nothing", x.payOff(), 4);
        Due.is("three were paid", x.book(2, 0), 0);
        Due.is("no entry of 0 coins", x.book(3, 1), 1);
        Due.is("paid on both voyages", x.sailor(2, 12), 62);
        Due.is("voyage", x.count(0), 2);
    }

    private static void payOffCarriesDebts() {
        PurserLedgers x = twoOfEach();
        x.stock(0, 9, 9);
        x.days(2);
        x.sell(0, 0, 2);
        x.fine(0, 3);
        Due.is("2, 4 and 4", x.payOff(), 10);
        Due.is("debt", x.sailor(0, 11), 23);
        Due.is("balance", x.sailor(0, 3), 9977);
        Due.is("balance", x.sailor(0, 4), 9977);
        Due.is("charged for the chest", x.sailor(0, 8), 0);
        Due.is("fines", x.sailor(0, 9), 0);
        Due.is("nothing is paid", x.sailor(0, 12), 0);
        x.days(10);
        Due.is("balance", x.sailor(0, 3), 9987);
        x.dismiss(3);
        Due.is("10 and 20", x.payOff(), 30);
        Due.is("debt", x.sailor(0, 11), 13);
        x.days(14);
        Due.is("1, 14 and 28", x.payOff(), 43);
        Due.is("debt", x.sailor(0, 11), 0);
        Due.is("gone", x.sailor(3, 12), 24);
    }

    private static void set() {
        PurserLedgers x = new PurserLedgers();
        int[] first = {50, 25, 2};
        int[] highest = {500, 200, 50};
        for (int what = 0; what < 3; what++) {
            Due.is("above", x.set(what, highest[what] + 1), Due.INVALID);
            Due.is("below", x.set(what, -1), Due.INVALID);
            Due.is("as it was", x.count(20 + what), first[what]);
            Due.is("highest", x.set(what, highest[what]), first[what]);
            Due.is("highest", x.count(20 + what), highest[what]);
            Due.is("lowest", x.set(what, 0), highest[what]);
            Due.is("the same", x.set(what, 0), 0);
            Due.is("lowest", x.count(20 + what), 0);
            Due.is("back", x.set(what, first[what]), 0);
        }
        Due.is("what -1", x.set(-1, 0), Due.INVALID);
        Due.is("what 3", x.set(3, 0), Due.INVALID);
        x.sail();
        Due.is("at sea", x.set(2, 1), 2);
        Due.is("it is a change", x.undo(), 3);
        Due.is("undone", x.count(22), 2);
    }
}
