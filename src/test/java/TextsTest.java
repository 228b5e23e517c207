/** Promises 27 to 30: type, clearText, fault, play. */
public final class TextsTest {
    public static void main(String[] args) {
        type();
        clearText();
        forms();
        breakingOff();
        tooEarly();
        refusals();
        faultsInOrder();
        faultAsks();
        play();
        playEveryOrder();
        playFaulty();
        playIsOneChange();
        Due.end("TextsTest");
    }

    private static void type() {
        PurserLedgers x = new PurserLedgers();
        Due.is("31", x.type(31), Due.INVALID);
        Due.is("127", x.type(127), Due.INVALID);
        Due.is("-1", x.type(-1), Due.INVALID);
        Due.is("32", x.type(32), 1);
        Due.is("126", x.type(126), 2);
        for (int k = 3; k <= 60; k++) {
            Due.is("a", x.type('a'), k);
        }
        Due.is("61st", x.type('a'), Due.LIMIT);
        Due.is("invalid rather than limit", x.type(127), Due.INVALID);
        Due.is("length", x.count(18), 60);
        Due.is("no change", x.count(17), 0);
    }

    private static void clearText() {
        PurserLedgers x = new PurserLedgers();
        Due.is("empty", x.clearText(), 0);
        x.type('x');
        x.type('o');
        Due.is("two", x.clearText(), 2);
        Due.is("empty", x.clearText(), 0);
        Due.is("length", x.count(18), 0);
        Due.is("no fault", x.fault(0), Due.NOT_FOUND);
        Due.is("from the start", x.type('o'), 1);
        Due.is("no change", x.count(17), 0);
    }

    /** A crew that is able to do one order of each kind. */
    private static PurserLedgers crew() {
        PurserLedgers x = new PurserLedgers();
        x.sign(3, 0);
        x.sign(3, 1);
        x.stock(0, 50, 1);
        x.days(10);
        x.leave(1);
        return x;
    }

    private static void noFault(String orders) {
        PurserLedgers x = crew();
        Due.write(x, orders);
        for (int what = 0; what < 3; what++) {
            Due.is("fault " + what + " of " + orders, x.fault(what), Due.NOT_FOUND);
        }
    }

    private static void fault(String orders, int position, int reason, int cause) {
        PurserLedgers x = crew();
        Due.write(x, orders);
        String before = Due.told(x);
        Due.is("position of " + orders, x.fault(0), position);
        Due.is("reason of " + orders, x.fault(1), reason);
        Due.is("cause of " + orders, x.fault(2), cause);
        Due.is("play of " + orders, x.play(), Due.NOT_POSSIBLE);
        Due.same("a text with a fault", Due.told(x), before);
    }

    private static void forms() {
        noFault("");
        noFault("h0,0;");
        noFault("b5,99,99;");
        noFault("v0,0,50;");
        noFault("a0,20;");
        noFault("f0,999;");
        noFault("d99;");
        noFault("r1,0;");
        noFault("r1,0;l0;");
        noFault("o;");
        noFault("o;p;e;");
        noFault("e;");
        noFault("h003,001;b000,050,001;v000,00,01;f001,001;d001;");
        noFault("o;p;o;p;o;p;o;p;o;p;o;p;o;p;o;p;o;p;o;p;o;p;o;p;o;p;o;p;o;p;");
    }

    private static void breakingOff() {
        fault("x;", 0, 1, 0);
        fault(" o;", 0, 1, 0);
        fault("O;", 0, 1, 0);
        fault(";", 0, 1, 0);
        fault("1;", 0, 1, 0);
        fault("s0;", 0, 1, 0);
        fault("o1;", 0, 1, 1);
        fault("p,;", 0, 1, 1);
        fault("e ;", 0, 1, 1);
        fault("d;", 0, 1, 1);
        fault("d1,;", 0, 1, 2);
        fault("d1234;", 0, 1, 4);
        fault("d0001;", 0, 1, 4);
        fault("d-1;", 0, 1, 1);
        fault("d 1;", 0, 1, 1);
        fault("d1 ;", 0, 1, 2);
        fault("d/;", 0, 1, 1);
        fault("d:;", 0, 1, 1);
        fault("d1.5;", 0, 1, 2);
        fault("l0,0;", 0, 1, 2);
        fault("h;", 0, 1, 1);
        fault("h1;", 0, 1, 2);
        fault("h1,;", 0, 1, 3);
        fault("h,1;", 0, 1, 1);
        fault("h1,1,1;", 0, 1, 4);
        fault("a0;", 0, 1, 2);
        fault("f0,1,;", 0, 1, 4);
        fault("f0,1234;", 0, 1, 6);
        fault("r1,0,0;", 0, 1, 4);
        fault("r1;", 0, 1, 2);
        fault("b0,1;", 0, 1, 4);
        fault("b0,1,1,1;", 0, 1, 6);
        fault("b0,1,;", 0, 1, 5);
        fault("v0,0;", 0, 1, 4);
        fault("v0,,1;", 0, 1, 3);
        fault("v111,222,333 ;", 0, 1, 12);
    }

    private static void tooEarly() {
        fault("o", 0, 1, 1);
        fault("d", 0, 1, 1);
        fault("d1", 0, 1, 2);
        fault("d123", 0, 1, 4);
        fault("h", 0, 1, 1);
        fault("h1", 0, 1, 2);
        fault("h1,", 0, 1, 3);
        fault("h1,0", 0, 1, 4);
        fault("b1,2,3", 0, 1, 6);
        fault("b1,2,", 0, 1, 5);
        fault("v000,000,001", 0, 1, 12);
        fault("o;p", 2, 1, 1);
        fault("d1;d12", 3, 1, 3);
        fault("d1234", 0, 1, 4);
        PurserLedgers y = crew();
        Due.write(y, "d1;o;p;");
        Due.write(y, "d1");
        Due.is("what was typed before is not read", y.fault(2), 2);
        y.clearText();
        Due.is("what was typed before is not read", y.fault(2), Due.NOT_FOUND);
        PurserLedgers x = crew();
        Due.write(x, "d1;d1;d1;d1;d1;d1;d1;d1;d1;d1;d1;d1;d1;d1;d1;d1;d1;d1;d1;d11");
        Due.is("60 characters", x.count(18), 60);
        Due.is("position", x.fault(0), 57);
        Due.is("reason", x.fault(1), 1);
        Due.is("cause", x.fault(2), 3);
    }

    private static void refusals() {
        fault("h4,0;", 0, 2, Due.INVALID);
        fault("h0,2;", 0, 2, Due.INVALID);
        fault("h003,100;", 0, 2, Due.INVALID);
        fault("o;h0,0;", 2, 2, Due.NOT_POSSIBLE);
        fault("b6,1,1;", 0, 2, Due.INVALID);
        fault("b0,100,1;", 0, 2, Due.INVALID);
        fault("b0,99,1;b0,99,1;b0,99,1;b0,99,1;b0,99,1;", 32, 2, Due.LIMIT);
        fault("v2,0,1;", 0, 2, Due.INVALID);
        fault("v1,0,1;", 0, 2, Due.NOT_POSSIBLE);
        fault("v0,0,51;", 0, 2, Due.NOT_POSSIBLE);
        fault("a0,21;", 0, 2, Due.NOT_POSSIBLE);
        fault("a0,0;", 0, 2, Due.INVALID);
        fault("a2,1;", 0, 2, Due.INVALID);
        fault("f0,0;", 0, 2, Due.INVALID);
        fault("f0,999;f0,999;f0,999;f0,999;f0,999;", 28, 2, Due.NOT_POSSIBLE);
        fault("d0;", 0, 2, Due.INVALID);
        fault("d100;", 0, 2, Due.INVALID);
        fault("d99;d99;d99;d99;d99;d99;d99;d99;d99;d98;d1;", 40, 2, Due.LIMIT);
        fault("l0;", 0, 2, Due.NOT_POSSIBLE);
        fault("l2;", 0, 2, Due.INVALID);
        fault("r0,0;", 0, 2, Due.NOT_POSSIBLE);
        fault("r1,100;", 0, 2, Due.INVALID);
        fault("o;o;", 2, 2, Due.NOT_POSSIBLE);
        fault("p;", 0, 2, Due.NOT_POSSIBLE);
        fault("o;e;", 2, 2, Due.NOT_POSSIBLE);
        fault("e;e;", 2, 2, Due.NOT_POSSIBLE);
        PurserLedgers x = new PurserLedgers();
        for (int k = 0; k < 15; k++) {
            x.sign(0, 0);
        }
        Due.write(x, "h0,0;h0,0;");
        Due.is("position", x.fault(0), 5);
        Due.is("reason", x.fault(1), 2);
        Due.is("cause", x.fault(2), Due.LIMIT);
    }

    private static void faultsInOrder() {
        fault("p;x;", 0, 2, Due.NOT_POSSIBLE);
        fault("o;x;p;p;", 2, 1, 0);
        fault("d1;h9,9;d", 3, 2, Due.INVALID);
        fault("a0,20;a0,1;", 6, 2, Due.NOT_POSSIBLE);
        noFault("a0,20;d1;a0,2;");
        noFault("h0,0;f2,1;");
        fault("f2,1;h0,0;", 0, 2, Due.INVALID);
        noFault("r1,0;v1,0,1;");
        fault("o;v1,0,1;", 2, 2, Due.NOT_POSSIBLE);
    }

    private static void faultAsks() {
        PurserLedgers x = crew();
        Due.is("what -1", x.fault(-1), Due.INVALID);
        Due.is("what 3", x.fault(3), Due.INVALID);
        Due.is("empty", x.fault(2), Due.NOT_FOUND);
        Due.write(x, "o;p;");
        Due.is("no fault", x.fault(0), Due.NOT_FOUND);
        x.sail();
        Due.is("now it has one", x.fault(0), 0);
        Due.is("what 3 with a fault", x.fault(3), Due.INVALID);
        x.port();
        Due.is("no fault any more", x.fault(1), Due.NOT_FOUND);
        Due.is("the text stays", x.count(18), 4);
    }

    private static void play() {
        PurserLedgers x = new PurserLedgers();
        Due.is("empty", x.play(), 0);
        Due.is("a change, too", x.count(17), 1);
        Due.write(x, "h1,0;d5;");
        Due.is("two", x.play(), 2);
        Due.is("the text stays", x.count(18), 8);
        Due.is("once more", x.play(), 2);
        Due.is("sailors", x.count(4), 2);
        Due.is("days of the first", x.sailor(0, 6), 10);
        Due.is("days of the second", x.sailor(1, 6), 5);
        Due.write(x, "o;p;o;p;o;p;o;p;o;p;o;p;o;p;o;p;o;p;o;p;o;p;o;p;o;p;o;p;o;p;");
        Due.is("thirty", x.play(), 30);
        Due.is("ports", x.count(3), 15);
    }

    private static void playEveryOrder() {
        PurserLedgers x = new PurserLedgers();
        PurserLedgers y = new PurserLedgers();
        Due.write(x, "h3,0;h1,1;b2,10,4;d30;v1,2,3;a0,12;f1,2;l1;");
        Due.is("eight", x.play(), 8);
        y.sign(3, 0);
        y.sign(1, 1);
        y.stock(2, 10, 4);
        y.days(30);
        y.sell(1, 2, 3);
        y.advance(0, 12);
        y.fine(1, 2);
        y.leave(1);
        same(x, y);
        Due.write(x, "r1,3;o;d12;p;e;");
        Due.is("five", x.play(), 5);
        y.back(1, 3);
        y.sail();
        y.days(12);
        y.port();
        y.payOff();
        same(x, y);
        Due.is("three places", x.sailor(0, 12), 96);
    }

    /** Like in all but the history and the text. */
    private static void same(PurserLedgers x, PurserLedgers y) {
        Due.same("played and called", Due.told(x).replaceAll("count 1[78] .*\n", ""),
                Due.told(y).replaceAll("count 1[78] .*\n", ""));
    }

    private static void playFaulty() {
        PurserLedgers x = crew();
        Due.write(x, "d1;f0,5;h0,0;o;d1;e;");
        String before = Due.told(x);
        Due.is("faulty", x.play(), Due.NOT_POSSIBLE);
        Due.same("nothing is done", Due.told(x), before);
        Due.is("no state more", x.count(17), 4);
        Due.is("the text stays", x.count(18), 20);
    }

    private static void playIsOneChange() {
        PurserLedgers x = new PurserLedgers();
        x.sign(1, 0);
        String before = Due.told(x).replaceAll("count 1[78] .*\n", "");
        Due.write(x, "h1,0;b0,5,5;d3;v0,0,1;f1,3;l0;o;d3;p;e;");
        Due.is("ten", x.play(), 10);
        Due.is("one state more", x.count(17), 2);
        Due.is("undo", x.undo(), 1);
        Due.same("all is undone", Due.told(x).replaceAll("count 1[78] .*\n", ""), before);
    }
}
