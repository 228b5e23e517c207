/** Promises 27 to 30 by their sentences: type, clearText, fault, play. */
public final class TextEdgesTest {
    private static final int INVALID = Edges.INVALID;
    private static final int NOT_POSSIBLE = Edges.NOT_POSSIBLE;
    private static final int LIMIT = Edges.LIMIT;
    private static final int NOT_FOUND = Edges.NOT_FOUND;
    private static final int BAD_FORM = 1;
    private static final int REFUSED = 2;
    /** Able to do each of the orders, with the sailor 1 on leave. */
    private static final String CREW = "sign 3 0 | sign 3 1 | stock 0 50 1 | days 10 | leave 1";

    public static void main(String[] args) {
        type();
        clearText();
        forms();
        numbersOfDigits();
        firstCharacters();
        breakingOff();
        brokenNumbers();
        tooEarly();
        refusedOrders();
        refusedForLimits();
        refusedErrors();
        firstFault();
        whenThoseAheadAreDone();
        faultRanges();
        faultLeavesAll();
        playAnswers();
        playDoesAll();
        playIsOneChange();
        playFaulty();
        Due.end("TextEdgesTest");
    }

    private static void type() {
        Edges.sentence("27: character: 32 to 126");
        Edges.dueOfEach("", 1, "type 32", "type 126");
        Edges.dueOfEach("", INVALID, "type 31", "type 127", "type 0", "type -1", "type 10", "type 256",
                "type " + (65536 + 'o'), "type " + Integer.MIN_VALUE, "type " + Integer.MAX_VALUE);
        Edges.sentence("27: returns the length of the text");
        Edges.due("type 32", "type 32", 2);
        Edges.due("58*type 32", "type 32", 59);
        Edges.sentence("27: LIMIT_REACHED if it has 60 characters");
        Edges.due("59*type 32", "type 32", 60);
        Edges.due("60*type 32", "type 32", LIMIT);
        Edges.due("60*type 32 | clearText", "type 32", 1);
        Edges.sentence("27: INVALID_ARGUMENT rather than LIMIT_REACHED");
        Edges.dueOfEach("60*type 32", INVALID, "type 31", "type 127");
        Edges.sentence("27: it is no change");
        Edges.due("type 32", "count 17", 0);
        Edges.due("days 1 | type 32", "count 17", 1);
    }

    private static void clearText() {
        Edges.sentence("28: returns the length it had");
        Edges.due("", "clearText", 0);
        Edges.due("write o", "clearText", 1);
        Edges.due("write o;p;", "clearText", 4);
        Edges.due("60*type 32", "clearText", 60);
        Edges.due("write o;p; | clearText", "clearText", 0);
        Edges.sentence("28: empties the text");
        Edges.due("write o;p; | clearText", "count 18", 0);
        Edges.due("write x | clearText", "fault 0", NOT_FOUND);
        Edges.due("write x | clearText | write o;", "play", 1);
        Edges.due("write o;p; | clearText | write o", "fault 2", 1);
        Edges.sentence("28: it is no change");
        Edges.due("write o | clearText", "count 17", 0);
    }

    private static String written(String orders) {
        return orders.isEmpty() ? CREW : CREW + " | write " + orders;
    }

    private static void noFault(String... texts) {
        for (String orders : texts) {
            Edges.dueInRow(written(orders), "fault", NOT_FOUND, NOT_FOUND, NOT_FOUND);
        }
    }

    private static void fault(String orders, int position, int reason, int cause) {
        Edges.dueInRow(written(orders), "fault", position, reason, cause);
        Edges.due(written(orders), "play", NOT_POSSIBLE);
    }

    /** All of one order, that breaks off there. */
    private static void breaksOffAt(int cause, String... texts) {
        for (String orders : texts) {
            fault(orders, 0, BAD_FORM, cause);
        }
    }

    private static void forms() {
        Edges.sentence("Texts: orders, each followed by \";\"");
        noFault("h0,0;", "b5,99,99;", "v0,0,50;", "a0,20;", "f0,999;", "d99;", "r1,99;", "o;", "e;");
        noFault("r1,0;l0;", "o;p;", "o;p;e;", "h0,0;h1,1;h2,0;h3,1;");
        Edges.sentence("Texts: none at all has no fault");
        noFault("");
        Edges.sentence("Texts: at most 60 characters");
        noFault("o;p;o;p;o;p;o;p;o;p;o;p;o;p;o;p;o;p;o;p;o;p;o;p;o;p;o;p;o;p;");
        noFault("h000,001;b000,001,001;v000,000,001;a000,001;f000,001;d1;o;p;");
        Edges.due("write o;p;o;p;o;p;o;p;o;p;o;p;o;p;o;p;o;p;o;p;o;p;o;p;o;p;o;p;o;p;", "play", 30);
    }

    private static void numbersOfDigits() {
        Edges.sentence("Texts: numbers of 1 to 3 digits");
        noFault("f0,9;", "f0,99;", "f0,999;");
        breaksOffAt(1, "d;");
        breaksOffAt(4, "d1234;", "d0001;", "d0000;");
        breaksOffAt(6, "f0,1000;", "f0,0999;");
        breaksOffAt(8, "b0,1,1000;");
        Edges.sentence("Texts: 0 ahead allowed");
        noFault("h003,001;", "b000,05,001;", "v000,00,01;", "a00,020;", "f00,001;", "d001;", "d09;", "r001,000;");
        fault("d000;", 0, REFUSED, INVALID);
        fault("d00;", 0, REFUSED, INVALID);
    }

    private static void firstCharacters() {
        Edges.sentence("Texts: a character that begins no order");
        breaksOffAt(0, "x;", " o;", "O;", ";", "1;", ",;", "s0;", "c;", "q;", "n;", "i;", "g;", "k0;", "m0;", "t0;", "u0;",
                "w0;", "z;", "H0,0;", "E;", " ", "~;");
    }

    private static void breakingOff() {
        Edges.sentence("Texts: an order without a number");
        breaksOffAt(1, "o1;", "p,;", "e ;", "oo;", "o,;");
        Edges.sentence("Texts: an order with one number");
        breaksOffAt(1, "d;", "l;", "d,;", "l,1;");
        breaksOffAt(2, "d1,;", "l0,0;", "d1 ;", "d1d1;");
        Edges.sentence("Texts: an order with two numbers");
        breaksOffAt(1, "h;", "a;", "f;", "r;", "h,1;");
        breaksOffAt(2, "h1;", "a0;", "f0;", "r1;", "h1 ,1;", "h1.1;");
        breaksOffAt(3, "h1,;", "a0,;", "f0,;", "r1,;", "h1, 1;", "h1,,1;");
        breaksOffAt(4, "h1,1,1;", "a0,1,;", "f0,1 ;", "r1,0,0;");
        Edges.sentence("Texts: an order with three numbers");
        breaksOffAt(1, "b;", "v;");
        breaksOffAt(2, "b0;", "v0;");
        breaksOffAt(3, "b0,;", "v0,,1;");
        breaksOffAt(4, "b0,1;", "v0,0;");
        breaksOffAt(5, "b0,1,;", "v0,0,;");
        breaksOffAt(6, "b0,1,1,1;", "v0,0,1,;");
        breaksOffAt(12, "v111,222,333 ;", "b000,001,001,;");
    }

    private static void brokenNumbers() {
        Edges.sentence("Texts: characters next to the digits");
        breaksOffAt(1, "d/;", "d:;", "d-1;", "d+1;", "d 1;");
        breaksOffAt(2, "d1/;", "d1:;", "d1.5;", "d1-;");
        breaksOffAt(3, "d12/;", "d12:;", "f0,-;", "f0,a;");
    }

    private static void tooEarly() {
        Edges.sentence("Texts: of one that the text ends too early it is its length");
        breaksOffAt(1, "o", "p", "e", "d", "l", "h", "b", "v", "a", "f", "r");
        breaksOffAt(2, "d1", "h1", "b1");
        breaksOffAt(3, "h1,", "d12", "v0,");
        breaksOffAt(4, "d123", "h1,0", "b0,1");
        breaksOffAt(5, "b0,1,");
        breaksOffAt(6, "b0,1,1");
        breaksOffAt(12, "v000,000,001");
        fault("o;p", 2, BAD_FORM, 1);
        fault("d1;d12", 3, BAD_FORM, 3);
        Edges.sentence("Texts: one of too many digits does not end too early");
        breaksOffAt(4, "d1234");
        Edges.sentence("Texts: it ends with the 60th character at the latest");
        fault("d1;d1;d1;d1;d1;d1;d1;d1;d1;d1;d1;d1;d1;d1;d1;d1;d1;d1;d1;d11", 57, BAD_FORM, 3);
        fault("d1;d1;d1;d1;d1;d1;d1;d1;d1;d1;d1;d1;d1;d1;d1;d1;d1;d12;d12;o", 59, BAD_FORM, 1);
        noFault("d1;d1;d1;d1;d1;d1;d1;d1;d1;d1;d1;d1;d1;d1;d1;d1;d1;d1;d1;d1;");
    }

    private static void refusedOrders() {
        Edges.sentence("Texts: the reason is otherwise 2, the cause what the call returns: \"h\"");
        fault("h4,0;", 0, REFUSED, INVALID);
        fault("h0,2;", 0, REFUSED, INVALID);
        fault("o;h0,0;", 2, REFUSED, NOT_POSSIBLE);
        Edges.sentence("Texts: \"b\"");
        fault("b6,1,1;", 0, REFUSED, INVALID);
        fault("b0,0,1;", 0, REFUSED, INVALID);
        fault("b0,100,1;", 0, REFUSED, INVALID);
        fault("b0,1,100;", 0, REFUSED, INVALID);
        fault("o;b0,1,1;", 2, REFUSED, NOT_POSSIBLE);
        Edges.sentence("Texts: \"v\"");
        fault("v2,0,1;", 0, REFUSED, INVALID);
        fault("v0,6,1;", 0, REFUSED, INVALID);
        fault("v0,0,0;", 0, REFUSED, INVALID);
        fault("v1,0,1;", 0, REFUSED, NOT_POSSIBLE);
        fault("v0,0,51;", 0, REFUSED, NOT_POSSIBLE);
        Edges.sentence("Texts: \"a\"");
        fault("a2,1;", 0, REFUSED, INVALID);
        fault("a0,0;", 0, REFUSED, INVALID);
        fault("a0,21;", 0, REFUSED, NOT_POSSIBLE);
        fault("o;a0,1;", 2, REFUSED, NOT_POSSIBLE);
        Edges.sentence("Texts: \"f\"");
        fault("f2,1;", 0, REFUSED, INVALID);
        fault("f0,0;", 0, REFUSED, INVALID);
        fault("o;f1,1;", 2, REFUSED, NOT_POSSIBLE);
        fault("f0,999;f0,999;f0,999;f0,999;f0,25;", 28, REFUSED, NOT_POSSIBLE);
    }

    private static void refusedErrors() {
        Edges.sentence("Texts: \"d\"");
        fault("d0;", 0, REFUSED, INVALID);
        fault("d100;", 0, REFUSED, INVALID);
        Edges.sentence("Texts: \"l\"");
        fault("l2;", 0, REFUSED, INVALID);
        fault("l0;", 0, REFUSED, NOT_POSSIBLE);
        fault("o;l0;", 2, REFUSED, NOT_POSSIBLE);
        Edges.sentence("Texts: \"r\"");
        fault("r2,0;", 0, REFUSED, INVALID);
        fault("r1,100;", 0, REFUSED, INVALID);
        fault("r0,0;", 0, REFUSED, NOT_POSSIBLE);
        fault("o;r1,0;", 2, REFUSED, NOT_POSSIBLE);
        Edges.sentence("Texts: \"o\"");
        fault("o;o;", 2, REFUSED, NOT_POSSIBLE);
        Edges.sentence("Texts: \"p\"");
        fault("p;", 0, REFUSED, NOT_POSSIBLE);
        fault("o;p;p;", 4, REFUSED, NOT_POSSIBLE);
        Edges.sentence("Texts: \"e\"");
        fault("o;e;", 2, REFUSED, NOT_POSSIBLE);
        fault("e;e;", 2, REFUSED, NOT_POSSIBLE);
    }

    private static void refusedForLimits() {
        Edges.sentence("Texts: LIMIT_REACHED may be the cause");
        fault("d99;d99;d99;d99;d99;d99;d99;d99;d99;d98;d1;", 40, REFUSED, LIMIT);
        noFault("d99;d99;d99;d99;d99;d99;d99;d99;d99;d98;");
        fault("b0,99,1;b0,99,1;b0,99,1;b0,99,1;b0,55,1;", 32, REFUSED, LIMIT);
        noFault("b0,99,1;b0,99,1;b0,99,1;b0,99,1;b0,54,1;");
        Edges.dueInRow("15*sign 0 0 | write h0,0;h0,0;", "fault", 5, REFUSED, LIMIT);
        Edges.dueInRow("15*sign 0 0 | write h0,0;", "fault", NOT_FOUND, NOT_FOUND, NOT_FOUND);
        Edges.due("15*sign 0 0 | write h0,0;", "play", 1);
    }

    private static void firstFault() {
        Edges.sentence("Texts: the position, from 0, of the first character of the first order that is not possible");
        fault("p;x;", 0, REFUSED, NOT_POSSIBLE);
        fault("x;p;", 0, BAD_FORM, 0);
        fault("o;x;p;p;", 2, BAD_FORM, 0);
        fault("d1;h9,9;d", 3, REFUSED, INVALID);
        fault("d1;h9,9,d", 3, BAD_FORM, 4);
        fault("d1;d2;d3;;", 9, BAD_FORM, 0);
        Edges.sentence("Texts: the form comes ahead of what the call returns");
        fault("d0", 0, BAD_FORM, 2);
        fault("p", 0, BAD_FORM, 1);
        fault("h9,9 ;", 0, BAD_FORM, 4);
    }

    private static void whenThoseAheadAreDone() {
        Edges.sentence("Texts: when those ahead of it are done");
        fault("a0,20;a0,1;", 6, REFUSED, NOT_POSSIBLE);
        noFault("a0,20;d1;a0,2;", "h0,0;f2,1;", "r1,0;v1,0,1;", "r1,0;l1;", "o;p;e;d1;e;");
        fault("f2,1;h0,0;", 0, REFUSED, INVALID);
        fault("o;v1,0,1;", 2, REFUSED, NOT_POSSIBLE);
        fault("r1,0;l1;v1,0,1;", 8, REFUSED, NOT_POSSIBLE);
        fault("e;a0,1;", 2, REFUSED, NOT_POSSIBLE);
        noFault("v0,0,50;");
        fault("v0,0,30;b0,30,1;v0,0,41;", 16, REFUSED, NOT_POSSIBLE);
        noFault("v0,0,30;b0,30,1;v0,0,40;");
    }

    private static void faultRanges() {
        Edges.sentence("29: what: 0 to 2");
        Edges.dueInRow("write x", "fault", 0, 1, 0);
        Edges.dueOfEach("write x", INVALID, "fault -1", "fault 3", "fault " + Integer.MIN_VALUE,
                "fault " + Integer.MAX_VALUE);
        Edges.sentence("29: INVALID_ARGUMENT rather than NOT_FOUND");
        Edges.dueOfEach("", INVALID, "fault -1", "fault 3");
        Edges.dueOfEach("write o;", INVALID, "fault -1", "fault 3");
        Edges.sentence("29: NOT_FOUND if the text has no fault (also if it is empty)");
        Edges.dueOfEach("", NOT_FOUND, "fault 0", "fault 1", "fault 2");
        Edges.dueOfEach("write o;", NOT_FOUND, "fault 0", "fault 1", "fault 2");
    }

    private static void faultLeavesAll() {
        Edges.sentence("29: the fault is of the text as the books are now");
        Edges.due("write o; | sail", "fault 0", 0);
        Edges.due("write o; | sail | port", "fault 0", NOT_FOUND);
        Edges.due("write o; | sail | undo", "fault 0", NOT_FOUND);
        Edges.due("write f0,1;", "fault 2", INVALID);
        Edges.due("write f0,1; | sign 0 0", "fault 2", NOT_FOUND);
        Edges.sentence("29: it does nothing of the text");
        Edges.due(CREW + " | write d5;f0,3;o;x", "fault 0", 10);
        Edges.due(CREW + " | write d5;f0,3;o;", "fault 0", NOT_FOUND);
    }

    private static void playAnswers() {
        Edges.sentence("30: returns how many there are in it");
        Edges.due("write o;", "play", 1);
        Edges.due("write h1,0;d5;", "play", 2);
        Edges.due("write o;p;o;p;o;p;o;p;o;p;o;p;o;p;o;p;o;p;o;p;o;p;o;p;o;p;o;p;o;p;", "play", 30);
        Edges.sentence("30: they are one change, also if there are none");
        Edges.due("", "play", 0);
        Edges.due("play", "count 17", 1);
        Edges.due("play | play", "undo", 1);
        Edges.due("days 1 | clearText | play | undo", "count 2", 1);
    }

    private static void playDoesAll() {
        String run = "write h3,0;h1,1;b2,10,4;d30;v1,2,3;a0,12;f1,2;l1; | play";
        String calls = "sign 3 0 | sign 1 1 | stock 2 10 4 | days 30 | sell 1 2 3 | advance 0 12 | fine 1 2 | leave 1";
        Edges.sentence("30: does all orders of the text");
        likeCalls(run, calls);
        likeCalls(run + " | clearText | write r1,3;o;d12;p;e; | play",
                calls + " | back 1 3 | sail | days 12 | port | payOff");
        Edges.sentence("30: the text stays");
        Edges.due("write d5;o;p; | play", "count 18", 7);
        Edges.due("write d5;o;p; | play", "play", 3);
        Edges.due("write d5;o;p; | play | play", "count 2", 10);
        Edges.due("write d5;o;p; | play | undo", "count 18", 7);
    }

    /** What is played is told as what is called, when both have the same text. */
    private static void likeCalls(String played, String called) {
        Due.same(played, Asked.after(played + " | clearText").told(), Asked.after(called).told());
    }

    private static void playIsOneChange() {
        Edges.sentence("30: all of them are undone as one");
        Edges.due("sign 1 0 | write h1,0;b0,5,5;d3;v0,0,1;f1,3;l0;o;d3;p;e;", "play", 10);
        Edges.due("sign 1 0 | write h1,0;b0,5,5;d3;v0,0,1;f1,3;l0;o;d3;p;e; | play", "count 17", 2);
        Edges.due("sign 1 0 | write h1,0;b0,5,5;d3;v0,0,1;f1,3;l0;o;d3;p;e; | play", "undo", 1);
        Edges.due("sign 1 0 | write h1,0;b0,5,5;d3;v0,0,1;f1,3;l0;o;d3;p;e; | play | undo", "count 4", 1);
    }

    private static void playFaulty() {
        Edges.sentence("30: NOT_POSSIBLE if it has a fault, at its start or at its end");
        Edges.due(CREW + " | write x", "play", NOT_POSSIBLE);
        Edges.due(CREW + " | write d1;f0,5;h0,0;o;d1;e;", "play", NOT_POSSIBLE);
        Edges.due(CREW + " | write d1;f0,5;h0,0;o;d1;p", "play", NOT_POSSIBLE);
        Edges.due(CREW + " | write d0;", "play", NOT_POSSIBLE);
        Edges.due(CREW + " | write d99;d99;d99;d99;d99;d99;d99;d99;d99;d98;d1;", "play", NOT_POSSIBLE);
        Edges.sentence("30: without that fault");
        Edges.due(CREW + " | write d1;f0,5;h0,0;o;d1;p;", "play", 6);
    }
}
