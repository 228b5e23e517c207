/** Promises 16 to 18: sailor, item, book. */
public final class RecordsTest {
    public static void main(String[] args) {
        sailor();
        wages();
        item();
        book();
        Due.end("RecordsTest");
    }

    private static void sailor() {
        PurserLedgers x = new PurserLedgers();
        x.sign(1, 0);
        x.sign(3, 1);
        x.stock(4, 10, 4);
        x.days(1);
        x.fine(1, 12);
        x.payOff();
        x.sail();
        x.days(9);
        x.port();
        x.days(3);
        x.sell(1, 4, 3);
        x.fine(1, 2);
        x.advance(1, 7);
        x.leave(1);
        int[] due = {3, 1, 1, 10008, 10008, 9, 3, 42, 15, 2, 7, 10, 0};
        for (int what = 0; what < due.length; what++) {
            Due.is("sailor 1 " + what, x.sailor(1, what), due[what]);
        }
        int[] other = {1, 0, 0, 10021, 10021, 9, 3, 21, 0, 0, 0, 0, 1};
        for (int what = 0; what < other.length; what++) {
            Due.is("sailor 0 " + what, x.sailor(0, what), other[what]);
        }
        x.sail();
        int[] gone = {3, 1, 2, 10000, 10000, 0, 0, 0, 0, 0, 0, 0, 0};
        for (int what = 0; what < gone.length; what++) {
            Due.is("gone " + what, x.sailor(1, what), gone[what]);
        }
        Due.is("forfeit", x.count(15), 100008);
    }

    private static void wages() {
        PurserLedgers x = new PurserLedgers();
        for (int rank = 0; rank < 4; rank++) {
            x.sign(rank, 0);
        }
        x.days(1);
        int[] first = {0, 1, 2, 2};
        x.sail();
        for (int rank = 0; rank < 4; rank++) {
            Due.is("one day in port " + rank, x.sailor(rank, 7), first[rank]);
        }
        x.days(1);
        int[] second = {1, 3, 4, 6};
        for (int rank = 0; rank < 4; rank++) {
            Due.is("and one at sea " + rank, x.sailor(rank, 7), second[rank]);
        }
        x.days(4);
        Due.is("a cook, 6 days", x.sailor(2, 7), 12);
        x.days(1);
        Due.is("a cook, 7 days", x.sailor(2, 7), 15);
        x.port();
        x.days(6);
        int[] later = {6, 19, 27, 38};
        for (int rank = 0; rank < 4; rank++) {
            Due.is("7 in port and 6 at sea " + rank, x.sailor(rank, 7), later[rank]);
        }
        x.days(1);
        Due.is("a cook, 14 days", x.sailor(2, 7), 30);
        Due.is("a boy, 14 days", x.sailor(0, 7), 7);
    }

    private static void item() {
        PurserLedgers x = new PurserLedgers();
        x.sign(3, 0);
        x.set(0, 500);
        x.stock(1, 30, 4);
        x.stock(5, 20, 8);
        x.sell(0, 1, 10);
        x.stock(1, 5, 20);
        x.sell(0, 1, 2);
        int[] due = {23, 25, 35, 12, 100};
        for (int what = 0; what < due.length; what++) {
            Due.is("item 1 " + what, x.item(1, what), due[what]);
        }
        int[] other = {20, 10, 20, 0, 0};
        for (int what = 0; what < other.length; what++) {
            Due.is("item 5 " + what, x.item(5, what), other[what]);
        }
        Due.is("item -1", x.item(-1, 0), Due.INVALID);
        Due.is("item 6", x.item(6, 0), Due.INVALID);
        Due.is("what -1", x.item(0, -1), Due.INVALID);
        Due.is("what 5", x.item(0, 5), Due.INVALID);
    }

    private static void book() {
        PurserLedgers x = new PurserLedgers();
        x.sign(3, 0);
        x.sign(3, 1);
        x.stock(0, 10, 4);
        x.days(50);
        x.sell(1, 0, 2);
        x.fine(0, 3);
        x.advance(1, 4);
        x.dismiss(0);
        int[][] due = {{0, 3, 97}, {1, 2, 4}, {0, 1, 3}, {1, 0, 10}};
        for (int ago = 0; ago < due.length; ago++) {
            for (int what = 0; what < 3; what++) {
                Due.is("book " + ago + " " + what, x.book(ago, what), due[ago][what]);
            }
        }
        Due.is("no fifth one", x.book(4, 0), Due.NOT_FOUND);
        for (int k = 1; k <= 6; k++) {
            x.fine(1, k);
        }
        Due.is("8 are kept", x.count(16), 8);
        for (int ago = 0; ago < 6; ago++) {
            Due.is("book " + ago, x.book(ago, 2), 6 - ago);
        }
        Due.is("the last one but one", x.book(6, 1), 3);
        Due.is("the last one", x.book(7, 1), 2);
        Due.is("no ninth one", x.book(8, 1), Due.NOT_FOUND);
        x.undo();
        Due.is("undone", x.book(0, 2), 5);
        Due.is("undone", x.book(7, 1), 1);
        Due.is("8 are kept", x.count(16), 8);
    }
}
