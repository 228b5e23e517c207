/** Promises 19 to 26: why, most, clearIn, ifPaidOff, poorest, share, count, undo. */
public final class OutlookTest {
    public static void main(String[] args) {
        why();
        most();
        clearIn();
        ifPaidOff();
        poorest();
        share();
        shareBits();
        count();
        Due.end("OutlookTest");
    }

    private static void why() {
        PurserLedgers x = new PurserLedgers();
        Due.is("no sailor", x.why(0, 0, 1), Due.INVALID);
        x.sign(0, 0);
        x.sign(0, 1);
        Due.is("sailor 2", x.why(2, 0, 1), Due.INVALID);
        Due.is("sailor -1", x.why(-1, 0, 1), Due.INVALID);
        Due.is("item 6", x.why(0, 6, 1), Due.INVALID);
        Due.is("item -1", x.why(0, -1, 1), Due.INVALID);
        Due.is("many 0", x.why(0, 0, 0), Due.INVALID);
        Due.is("many 100", x.why(0, 0, 100), Due.INVALID);
        Due.is("nothing in stock", x.why(0, 0, 1), 2);
        x.stock(0, 10, 8);
        Due.is("it is", x.why(0, 0, 5), 0);
        Due.is("debts", x.why(0, 0, 6), 3);
        Due.is("too few, ahead of debts", x.why(0, 0, 11), 2);
        x.leave(1);
        Due.is("on leave", x.why(1, 0, 1), 1);
        Due.is("on leave, ahead of too few", x.why(1, 0, 99), 1);
        Due.is("on leave, invalid", x.why(1, 0, 0), Due.INVALID);
        x.sail();
        Due.is("gone", x.why(1, 0, 1), 1);
        Due.is("at sea", x.why(0, 0, 5), 0);
        x.days(19);
        Due.is("9 coins more", x.why(0, 0, 6), 3);
        x.days(1);
        Due.is("10 coins more", x.why(0, 0, 6), 0);
        Due.is("nothing was sold", x.item(0, 3), 0);
        Due.is("no change", x.undo(), 3);
    }

    private static void most() {
        PurserLedgers x = new PurserLedgers();
        Due.is("no sailor", x.most(0, 0), Due.INVALID);
        x.sign(3, 0);
        x.sign(0, 1);
        Due.is("sailor -1", x.most(-1, 0), Due.INVALID);
        Due.is("sailor 2", x.most(2, 0), Due.INVALID);
        Due.is("item -1", x.most(0, -1), Due.INVALID);
        Due.is("item 6", x.most(0, 6), Due.INVALID);
        Due.is("none in stock", x.most(0, 0), 0);
        x.stock(0, 40, 8);
        Due.is("50 / 10", x.most(0, 0), 5);
        x.days(4);
        Due.is("58 / 10", x.most(0, 0), 5);
        x.days(1);
        Due.is("60 / 10", x.most(0, 0), 6);
        x.fine(0, 61);
        Due.is("below the bound", x.most(0, 0), 0);
        x.undo();
        x.fine(0, 60);
        Due.is("on the bound", x.most(0, 0), 0);
        x.undo();
        PurserLedgers y = new PurserLedgers();
        y.sign(0, 0);
        y.stock(0, 9, 1);
        y.fine(0, 51);
        Due.is("1 coin below the bound, at a price of 1", y.most(0, 0), 0);
        y.set(0, 60);
        Due.is("9 coins above it", y.most(0, 0), 9);
        x.set(0, 500);
        Due.is("all in stock", x.most(0, 0), 40);
        x.stock(1, 99, 1);
        x.stock(1, 99, 1);
        Due.is("99 at most", x.most(0, 1), 99);
        x.leave(0);
        Due.is("on leave", x.most(0, 1), 0);
        Due.is("of the other watch", x.most(1, 1), 99);
        x.sail();
        Due.is("gone", x.most(0, 1), 0);
        x.sell(1, 1, 99);
        x.sell(1, 1, 90);
        Due.is("9 are left", x.most(1, 1), 9);
        x.sell(1, 1, 9);
        Due.is("none is left, with a price", x.most(1, 1), 0);
    }

    private static void clearIn() {
        PurserLedgers x = new PurserLedgers();
        for (int rank = 0; rank < 4; rank++) {
            x.sign(rank, 0);
            Due.is("now", x.clearIn(rank), 0);
            x.fine(rank, 15);
        }
        int[] inPort = {30, 15, 7, 8};
        for (int rank = 0; rank < 4; rank++) {
            Due.is("in port " + rank, x.clearIn(rank), inPort[rank]);
        }
        x.sail();
        int[] atSea = {30, 8, 7, 4};
        for (int rank = 0; rank < 4; rank++) {
            Due.is("at sea " + rank, x.clearIn(rank), atSea[rank]);
        }
        x.days(5);
        int[] later = {25, 3, 2, 0};
        for (int rank = 0; rank < 4; rank++) {
            Due.is("5 days later " + rank, x.clearIn(rank), later[rank]);
        }
        x.port();
        x.days(2);
        Due.is("a hand in port", x.clearIn(1), 3);
        Due.is("a cook in port", x.clearIn(2), 0);
        Due.is("balance of 0", x.sailor(2, 3), 10000);
        x.payOff();
        Due.is("a debt of 3 was carried", x.clearIn(1), 3);
        x.leave(0);
        Due.is("on leave", x.clearIn(1), 3);
    }

    private static void ifPaidOff() {
        PurserLedgers x = new PurserLedgers();
        Due.is("what -1", x.ifPaidOff(-1), Due.INVALID);
        Due.is("what 4", x.ifPaidOff(4), Due.INVALID);
        for (int what = 0; what < 4; what++) {
            Due.is("without sailors", x.ifPaidOff(what), 0);
        }
        x.sign(3, 0);
        x.sign(1, 0);
        x.sign(0, 1);
        x.sign(1, 1);
        x.sign(0, 1);
        x.fine(1, 7);
        x.fine(3, 9);
        Due.is("without a day: debts", x.ifPaidOff(2), 16);
        Due.is("without a day: who", x.ifPaidOff(3), 10);
        x.stock(0, 48, 10);
        x.sail();
        x.days(4);
        Due.is("at sea: 16, 1, 2 and 2", x.ifPaidOff(0), 21);
        Due.is("drawn: 1", x.ifPaidOff(1), 1);
        Due.is("debts: 1", x.ifPaidOff(2), 1);
        Due.is("who", x.ifPaidOff(3), 8);
        x.port();
        x.leave(1);
        Due.is("on leave", x.ifPaidOff(0), 21);
        Due.is("on leave", x.ifPaidOff(3), 8);
        x.dismiss(4);
        Due.is("gone", x.ifPaidOff(0), 19);
        Due.is("cash is 18", x.ifPaidOff(1), 1);
        x.sail();
        Due.is("left behind", x.ifPaidOff(0), 17);
        Due.is("cash is 18", x.ifPaidOff(1), 0);
        Due.is("left behind", x.ifPaidOff(2), 0);
        Due.is("left behind", x.ifPaidOff(3), 0);
        x.port();
        Due.is("as was told", x.payOff(), 17);
        Due.is("no change", x.undo(), 3);
        PurserLedgers y = new PurserLedgers();
        y.sign(0, 0);
        y.fine(0, 1);
        Due.is("the first sailor: debts", y.ifPaidOff(2), 1);
        Due.is("the first sailor: who", y.ifPaidOff(3), 1);
        y.days(1);
        Due.is("half a coin is none", y.payOff(), 0);
        Due.is("a debt of 1 is carried", y.sailor(0, 11), 1);
        y.days(4);
        Due.is("the first sailor: paid", y.ifPaidOff(0), 1);
        Due.is("1 / 2", y.fine(0, 1), 5000);
        Due.is("1 / 2", y.share(), Float.floatToIntBits(0.5f));
        y.undo();
        y.undo();
        y.days(2);
        y.fine(0, 3);
        Due.is("earned 1, charged 3", y.share(), Float.floatToIntBits(3f));
    }

    private static void poorest() {
        PurserLedgers x = new PurserLedgers();
        Due.is("place -1", x.poorest(-1), Due.INVALID);
        Due.is("nobody", x.poorest(0), Due.NOT_FOUND);
        for (int k = 0; k < 5; k++) {
            x.sign(1, k % 2);
        }
        x.fine(1, 5);
        x.fine(3, 9);
        x.fine(4, 5);
        int[] due = {3, 1, 4, 0, 2};
        for (int place = 0; place < due.length; place++) {
            Due.is("place " + place, x.poorest(place), due[place]);
        }
        Due.is("place 5", x.poorest(5), Due.NOT_FOUND);
        Due.is("far away", x.poorest(Integer.MAX_VALUE), Due.NOT_FOUND);
        x.dismiss(0);
        x.leave(1);
        int[] later = {3, 1, 4, 2};
        for (int place = 0; place < later.length; place++) {
            Due.is("place " + place, x.poorest(place), later[place]);
        }
        Due.is("place 4", x.poorest(4), Due.NOT_FOUND);
        x.sail();
        Due.is("place 0", x.poorest(0), 4);
        Due.is("place 1", x.poorest(1), 2);
        Due.is("place 2", x.poorest(2), Due.NOT_FOUND);
    }

    private static void share() {
        PurserLedgers x = new PurserLedgers();
        Due.is("nobody", x.share(), Due.NOT_FOUND);
        x.sign(1, 0);
        x.sign(3, 1);
        x.fine(0, 3);
        Due.is("nothing was earned", x.share(), Due.NOT_FOUND);
        x.days(10);
        Due.is("3 / 30", x.share(), Float.floatToIntBits(3f / 30f));
        x.advance(1, 5);
        x.stock(0, 5, 4);
        x.sell(0, 0, 1);
        Due.is("13 / 30", x.share(), Float.floatToIntBits(13f / 30f));
        x.leave(0);
        Due.is("on leave", x.share(), Float.floatToIntBits(13f / 30f));
        x.sail();
        Due.is("without one who is gone: 5 / 20", x.share(), Float.floatToIntBits(0.25f));
        x.fine(1, 15);
        Due.is("20 / 20", x.share(), Float.floatToIntBits(1f));
        x.fine(1, 20);
        Due.is("40 / 20", x.share(), Float.floatToIntBits(2f));
        x.fine(1, 1);
        Due.is("41 / 20", x.share(), Float.floatToIntBits(41f / 20f));
        x.port();
        x.payOff();
        Due.is("nothing was earned", x.share(), Due.NOT_FOUND);
        x.days(1);
        Due.is("debts that were carried are not charged", x.share(), 0);
    }

    private static void shareBits() {
        PurserLedgers x = new PurserLedgers();
        for (int k = 0; k < 12; k++) {
            x.sign(k < 3 ? 1 : 3, k % 2);
        }
        int charged = 0;
        int days = 0;
        for (int round = 1; round <= 15; round++) {
            x.days(round * 3);
            days += round * 3;
            int earned = 3 * days + 9 * 2 * days;
            for (int k = 0; k < 12; k++) {
                int coins = 1 + (round * round * 7 + k * 13) % 61;
                x.fine(k, coins);
                charged += coins;
                Due.is(charged + " / " + earned, x.share(), Float.floatToIntBits((float) charged / (float) earned));
            }
        }
    }

    private static void count() {
        PurserLedgers x = new PurserLedgers();
        x.sign(1, 0);
        x.sign(3, 1);
        x.sign(3, 0);
        x.stock(0, 10, 4);
        x.days(20);
        x.sell(0, 0, 2);
        x.fine(0, 3);
        x.advance(1, 5);
        x.payOff();
        x.set(2, 7);
        x.days(6);
        x.leave(0);
        x.back(0, 1);
        x.sail();
        x.days(5);
        x.type('d');
        int[] due = {1, 1, 11, 0, 3, 3, 0, 4, 500 - 40 - 5 - 7 - 35 - 40, 0, 40, 5, 82, 10, 10, 100012, 7, 4, 1};
        for (int what = 0; what < due.length; what++) {
            Due.is("count " + what, x.count(what), due[what]);
        }
        Due.is("count 19", x.count(19), Due.INVALID);
        Due.is("count 20", x.count(20), 50);
        Due.is("count 21", x.count(21), 25);
        Due.is("count 22", x.count(22), 7);
        Due.is("count 23", x.count(23), Due.INVALID);
        Due.is("count -1", x.count(-1), Due.INVALID);
        x.port();
        Due.is("in port", x.count(1), 0);
        Due.is("ports", x.count(3), 1);
        x.leave(1);
        Due.is("on leave", x.count(6), 2);
        Due.is("aboard", x.count(5), 1);
    }
}
