/** Promises 8 to 15 by their sentences: leave, back, sail, port, days, dismiss, payOff, set. */
public final class ShipEdgesTest {
    private static final int INVALID = Edges.INVALID;
    private static final int NOT_POSSIBLE = Edges.NOT_POSSIBLE;
    private static final int LIMIT = Edges.LIMIT;
    private static final String FULL = "16*sign 0 0";
    /** Hands 0 and 1, mates 2 and 3, the even ones of the watch 0. */
    private static final String CREW = "sign 1 0 | sign 1 1 | sign 3 0 | sign 3 1";
    private static final String TO_4000 = "4*fine 0 999 | fine 0 4";

    public static void main(String[] args) {
        leaveRanges();
        leaveRefusals();
        leaveWho();
        backRanges();
        backRefusals();
        backLate();
        sail();
        sailForfeit();
        port();
        daysRanges();
        daysLimit();
        daysOfSailors();
        dismissRanges();
        dismissBalances();
        dismissAccounts();
        payOffRefusals();
        payOffBalances();
        payOffWho();
        payOffCash();
        payOffNextVoyage();
        setRanges();
        setAnswers();
        Due.end("ShipEdgesTest");
    }

    private static void leaveRanges() {
        Edges.sentence("8: watch: 0 or 1");
        Edges.dueOfEach(CREW, 2, "leave 0", "leave 1");
        Edges.dueOfEach(CREW, INVALID, "leave -1", "leave 2", "leave " + Integer.MIN_VALUE,
                "leave " + Integer.MAX_VALUE);
        Edges.sentence("8: INVALID_ARGUMENT rather than NOT_POSSIBLE");
        Edges.dueOfEach("", INVALID, "leave -1", "leave 2");
        Edges.dueOfEach(CREW + " | leave 0", INVALID, "leave -1", "leave 2");
        Edges.dueOfEach(CREW + " | sail", INVALID, "leave -1", "leave 2");
    }

    private static void leaveRefusals() {
        Edges.sentence("8: NOT_POSSIBLE at sea");
        Edges.dueOfEach(CREW + " | sail", NOT_POSSIBLE, "leave 0", "leave 1");
        Edges.due(CREW + " | sail | port", "leave 0", 2);
        Edges.sentence("8: NOT_POSSIBLE if somebody is on leave");
        Edges.dueOfEach(CREW + " | leave 0", NOT_POSSIBLE, "leave 0", "leave 1");
        Edges.dueOfEach(CREW + " | leave 1", NOT_POSSIBLE, "leave 0", "leave 1");
        Edges.dueOfEach(CREW + " | leave 1 | back 1 0", NOT_POSSIBLE, "leave 0", "leave 1");
        Edges.dueOfEach(CREW + " | leave 1 | back 1 0 | back 3 0", 2, "leave 0", "leave 1");
        Edges.dueOfEach(CREW + " | leave 1 | sail | port", NOT_POSSIBLE, "leave 1");
        Edges.due(CREW + " | leave 1 | back 1 0 | dismiss 3", "leave 1", 1);
        Edges.due(CREW + " | leave 1 | days 1 | payOff", "leave 0", NOT_POSSIBLE);
        Edges.sentence("8: NOT_POSSIBLE if nobody would go");
        Edges.dueOfEach("", NOT_POSSIBLE, "leave 0", "leave 1");
        Edges.due("3*sign 0 1", "leave 0", NOT_POSSIBLE);
        Edges.due("3*sign 0 0", "leave 1", NOT_POSSIBLE);
        Edges.due(CREW + " | dismiss 1 | dismiss 3", "leave 1", NOT_POSSIBLE);
        Edges.due(CREW + " | leave 1 | sail | port", "leave 1", NOT_POSSIBLE);
        Edges.due(CREW + " | leave 1 | sail | port", "leave 0", 2);
    }

    private static void leaveWho() {
        Edges.sentence("8: returns how many go: all of the watch who are aboard");
        Edges.due("sign 0 1", "leave 1", 1);
        Edges.due(FULL, "leave 0", 16);
        Edges.due(FULL + " | leave 0", "count 6", 65535);
        Edges.due(CREW + " | dismiss 1", "leave 1", 1);
        Edges.due(CREW + " | dismiss 1 | leave 1", "count 6", 8);
        Edges.due(CREW + " | dismiss 1 | leave 1", "count 5", 5);
        Edges.due(CREW + " | dismiss 1 | leave 1", "count 7", 2);
        Edges.due(CREW + " | leave 0", "count 6", 5);
        Edges.sentence("8: one who comes later is not on leave");
        Edges.due(CREW + " | leave 0 | sign 0 0", "sailor 4 2", 0);
    }

    private static void backRanges() {
        Edges.sentence("9: sailor: number of the sailor");
        Edges.due(CREW + " | leave 0", "back 0 0", 0);
        Edges.due(CREW + " | leave 1", "back 3 0", 0);
        Edges.dueOfEach(CREW + " | leave 0", INVALID, "back -1 0", "back 4 0", "back 16 0",
                "back " + Integer.MIN_VALUE + " 0", "back " + Integer.MAX_VALUE + " 0");
        Edges.due("", "back 0 0", INVALID);
        Edges.due(FULL + " | leave 0", "back 15 0", 0);
        Edges.due(FULL + " | leave 0", "back 16 0", INVALID);
        Edges.sentence("9: hours: 0 to 99");
        Edges.due(CREW + " | leave 0", "back 0 0", 0);
        Edges.due(CREW + " | leave 0", "back 0 99", 198);
        Edges.dueOfEach(CREW + " | leave 0", INVALID, "back 0 -1", "back 0 100", "back 0 " + Integer.MIN_VALUE,
                "back 0 " + Integer.MAX_VALUE);
        Edges.sentence("9: INVALID_ARGUMENT rather than NOT_POSSIBLE");
        Edges.dueOfEach(CREW, INVALID, "back 0 -1", "back 0 100", "back 4 0");
        Edges.dueOfEach(CREW + " | dismiss 0", INVALID, "back 0 -1", "back 0 100");
    }

    private static void backRefusals() {
        Edges.sentence("9: NOT_POSSIBLE if the sailor is not on leave");
        Edges.due(CREW, "back 0 0", NOT_POSSIBLE);
        Edges.due(CREW + " | leave 0", "back 1 0", NOT_POSSIBLE);
        Edges.due(CREW + " | leave 0 | back 0 0", "back 0 0", NOT_POSSIBLE);
        Edges.due(CREW + " | leave 0 | dismiss 0", "back 0 0", NOT_POSSIBLE);
        Edges.due(CREW + " | leave 0 | sail", "back 0 0", NOT_POSSIBLE);
        Edges.sentence("9: NOT_POSSIBLE if the balance would be below -4000");
        String low = CREW + " | 4*fine 0 999 | leave 0";
        Edges.due(low, "back 0 2", 4);
        Edges.due(low, "back 0 3", NOT_POSSIBLE);
        Edges.due(low + " | set 2 1", "back 0 4", 4);
        Edges.due(low + " | set 2 1", "back 0 5", NOT_POSSIBLE);
        Edges.due(CREW + " | " + TO_4000 + " | leave 0", "back 0 0", 0);
        Edges.due(CREW + " | " + TO_4000 + " | leave 0", "back 0 1", NOT_POSSIBLE);
        Edges.due(CREW + " | " + TO_4000 + " | leave 0 | set 2 0", "back 0 99", 0);
        Edges.due(CREW + " | leave 0 | set 2 50", "back 0 80", 4000);
        Edges.due(CREW + " | leave 0 | set 2 50", "back 0 81", NOT_POSSIBLE);
    }

    private static void backLate() {
        Edges.sentence("9: fined setting 2 coins for each hour");
        Edges.due(CREW + " | leave 0", "back 0 1", 2);
        Edges.due(CREW + " | leave 0 | set 2 50 | days 99", "back 2 79", 3950);
        Edges.due(CREW + " | leave 0 | set 2 7", "back 0 3", 21);
        Edges.due(CREW + " | leave 0 | set 2 0", "back 0 3", 0);
        String late = CREW + " | days 10 | leave 0 | back 2 3";
        Edges.dueInRow(late, "sailor 2", 3, 0, 0, 10014, 10014, 0, 10, 20, 0, 6, 0, 0, 0);
        Edges.due(late, "count 14", 6);
        Edges.due(late, "count 8", 500);
        Edges.dueInRow(late, "book 0", 2, 1, 6);
        Edges.sentence("9: one who is not late is not fined, which is no entry");
        Edges.due(CREW + " | leave 0 | back 0 0", "count 16", 0);
        Edges.due(CREW + " | leave 0 | set 2 0 | back 0 99", "count 16", 0);
        Edges.due(CREW + " | leave 0 | back 0 0", "count 14", 0);
        Edges.sentence("9: they come back one by one");
        Edges.due(late, "count 6", 1);
        Edges.due(late, "count 5", 14);
    }

    private static void sail() {
        Edges.sentence("10: NOT_POSSIBLE at sea");
        Edges.due("sail", "sail", NOT_POSSIBLE);
        Edges.due("sail | port", "sail", 0);
        Edges.due("sail | port | sail", "sail", NOT_POSSIBLE);
        Edges.sentence("10: the ship is at sea then");
        Edges.due("sail", "count 1", 1);
        Edges.sentence("10: returns how many are left behind");
        Edges.due("", "sail", 0);
        Edges.due(CREW, "sail", 0);
        Edges.due(CREW + " | leave 0 | back 0 0 | back 2 0", "sail", 0);
        Edges.due(CREW + " | leave 0 | back 0 0", "sail", 1);
        Edges.due(CREW + " | leave 0", "sail", 2);
        Edges.due(FULL + " | leave 0", "sail", 16);
        Edges.due(CREW + " | dismiss 0 | leave 0", "sail", 1);
        Edges.sentence("10: they are gone, and nobody is on leave");
        Edges.due(CREW + " | leave 0 | sail", "count 7", 5);
        Edges.due(CREW + " | leave 0 | sail", "count 6", 0);
        Edges.due(CREW + " | leave 0 | sail", "count 5", 10);
        Edges.due(FULL + " | leave 0 | sail", "count 7", 65535);
    }

    private static void sailForfeit() {
        String left = CREW + " | days 10 | fine 0 35 | leave 0";
        Edges.sentence("10: the balance is forfeit; it counts as it is, below 0, too");
        Edges.due(CREW + " | days 10 | leave 0 | back 2 0 | sail", "count 15", 100010);
        Edges.due(left + " | back 2 0 | sail", "count 15", 99975);
        Edges.due(left + " | sail", "count 15", 99995);
        Edges.due(CREW + " | leave 0 | sail", "count 15", 100000);
        Edges.due(CREW + " | " + TO_4000 + " | leave 0 | sail", "count 15", 96000);
        Edges.due(CREW + " | days 1 | fine 0 5 | payOff | leave 0 | sail", "count 15", 99996);
        Edges.sentence("10: it is neither paid nor entered");
        Edges.due(left + " | sail", "sailor 2 12", 0);
        Edges.due(left + " | sail", "count 12", 0);
        Edges.due(left + " | sail", "count 8", 500);
        Edges.due(left + " | sail", "count 16", 1);
        Edges.sentence("10: what was forfeit is kept together, on all voyages");
        Edges.due(left + " | sail | port | payOff | days 5 | leave 1 | back 3 0 | sail", "count 15", 100000);
        Edges.dueInRow(left + " | sail", "sailor 2", 3, 0, 2, 10000, 10000, 0, 0, 0, 0, 0, 0, 0, 0);
    }

    private static void port() {
        Edges.sentence("11: NOT_POSSIBLE in port");
        Edges.due("", "port", NOT_POSSIBLE);
        Edges.due("sail | port", "port", NOT_POSSIBLE);
        Edges.sentence("11: returns how many ports there were so far, the first one not counted");
        Edges.due("sail", "port", 1);
        Edges.due("sail | port | sail", "port", 2);
        Edges.due("sail | port | sail", "count 3", 1);
        Edges.due("", "count 3", 0);
        Edges.due("sail | port | days 1 | payOff | sail", "port", 2);
        Edges.sentence("11: the ship is in port then");
        Edges.due("sail | port", "count 1", 0);
    }

    private static void daysRanges() {
        Edges.sentence("12: many: 1 to 99");
        Edges.due("", "days 1", 1);
        Edges.due("", "days 99", 99);
        Edges.dueOfEach("", INVALID, "days 0", "days 100", "days -1", "days " + Integer.MIN_VALUE,
                "days " + Integer.MAX_VALUE);
        Edges.sentence("12: returns the days of this voyage then, in port and at sea");
        Edges.due("days 3 | sail", "days 4", 7);
        Edges.due("days 3 | sail | days 4 | port", "days 5", 12);
        Edges.due("days 3 | payOff", "days 4", 4);
        Edges.due("days 3", "count 2", 3);
    }

    private static void daysLimit() {
        Edges.sentence("12: LIMIT_REACHED if these would be more than 999");
        Edges.due("10*days 99", "days 9", 999);
        Edges.due("10*days 99", "days 10", LIMIT);
        Edges.due("10*days 99 | days 9", "days 1", LIMIT);
        Edges.due("10*days 99 | days 9", "days 99", LIMIT);
        Edges.due("sail | 10*days 99 | days 8", "days 1", 999);
        Edges.due("sail | 10*days 99 | days 8", "days 2", LIMIT);
        Edges.sentence("12: the limit is of this voyage");
        Edges.due("10*days 99 | days 9 | payOff", "days 99", 99);
        Edges.sentence("12: INVALID_ARGUMENT rather than LIMIT_REACHED");
        Edges.dueOfEach("10*days 99 | days 9", INVALID, "days 0", "days 100", "days -1");
    }

    private static void daysOfSailors() {
        String run = CREW + " | days 3 | sail | days 5 | port";
        Edges.sentence("The ship: each sailor who is not gone has one day more, at sea or in port");
        Edges.due(run, "sailor 0 5", 5);
        Edges.due(run, "sailor 0 6", 3);
        Edges.due(run + " | days 1", "sailor 0 5", 5);
        Edges.due(run + " | days 1", "sailor 0 6", 4);
        Edges.sentence("The ship: one who is on leave has it, too");
        Edges.due(run + " | leave 1 | days 2", "sailor 1 6", 5);
        Edges.due(run + " | leave 1 | days 2", "sailor 0 6", 5);
        Edges.sentence("The ship: one who is gone has none");
        Edges.due(run + " | dismiss 1 | days 2", "sailor 1 6", 0);
        Edges.due(run + " | dismiss 1 | sail | days 2", "sailor 1 5", 0);
        Edges.sentence("The ship: one who comes later has none of those before");
        Edges.due(run + " | sign 0 0 | days 2", "sailor 4 6", 2);
        Edges.due(run + " | sign 0 0 | days 2", "sailor 4 5", 0);
    }

    private static void dismissRanges() {
        Edges.sentence("13: sailor: number of the sailor");
        Edges.dueOfEach(CREW, 0, "dismiss 0", "dismiss 3");
        Edges.dueOfEach(CREW, INVALID, "dismiss -1", "dismiss 4", "dismiss 16", "dismiss " + Integer.MIN_VALUE,
                "dismiss " + Integer.MAX_VALUE);
        Edges.due("", "dismiss 0", INVALID);
        Edges.due(FULL, "dismiss 15", 0);
        Edges.due(FULL, "dismiss 16", INVALID);
        Edges.sentence("13: NOT_POSSIBLE at sea");
        Edges.due(CREW + " | sail", "dismiss 0", NOT_POSSIBLE);
        Edges.due(CREW + " | sail | port", "dismiss 0", 0);
        Edges.sentence("13: NOT_POSSIBLE if the sailor is gone");
        Edges.due(CREW + " | dismiss 0", "dismiss 0", NOT_POSSIBLE);
        Edges.due(CREW + " | leave 0 | sail | port", "dismiss 0", NOT_POSSIBLE);
        Edges.sentence("13: INVALID_ARGUMENT rather than NOT_POSSIBLE");
        Edges.dueOfEach(CREW + " | sail", INVALID, "dismiss -1", "dismiss 4");
    }

    private static void dismissBalances() {
        Edges.sentence("13: NOT_POSSIBLE if the balance is below 0");
        Edges.due(CREW + " | fine 0 1", "dismiss 0", NOT_POSSIBLE);
        Edges.due(CREW + " | fine 0 1 | days 1", "dismiss 0", 0);
        Edges.due(CREW + " | fine 0 1 | days 2", "dismiss 0", 1);
        Edges.due(CREW + " | fine 0 2 | days 1 | payOff", "dismiss 0", NOT_POSSIBLE);
        Edges.due(CREW + " | fine 0 2 | days 1 | payOff | days 1", "dismiss 0", 0);
        Edges.sentence("13: one who is on leave is not gone");
        Edges.due(CREW + " | days 5 | leave 0", "dismiss 2", 10);
        Edges.due(CREW + " | days 5 | leave 0 | dismiss 2", "count 6", 1);
        Edges.due(CREW + " | days 5 | leave 0 | dismiss 2", "sailor 2 2", 2);
    }

    private static void dismissAccounts() {
        String done = CREW + " | days 20 | fine 2 3 | advance 2 6 | dismiss 2";
        Edges.sentence("13: gets the balance, and is gone");
        Edges.due(CREW + " | days 20 | fine 2 3 | advance 2 6", "dismiss 2", 31);
        Edges.dueInRow(done, "sailor 2", 3, 0, 2, 10000, 10000, 0, 0, 0, 0, 0, 0, 0, 31);
        Edges.due(done, "count 12", 31);
        Edges.due(done, "count 8", 463);
        Edges.due(done, "count 7", 4);
        Edges.due(done, "count 15", 100000);
        Edges.dueInRow(done, "book 0", 2, 3, 31);
        Edges.sentence("13: what is paid on all voyages is kept together");
        Edges.due(CREW + " | days 20 | payOff | days 3 | dismiss 2", "sailor 2 12", 46);
        Edges.sentence("The book: a payment of 0 is no entry");
        Edges.due(CREW + " | dismiss 2", "count 16", 0);
        Edges.due(CREW + " | days 1 | fine 2 2 | dismiss 2", "count 16", 1);
        Edges.sentence("Cash: what is missing for the payment is drawn");
        Edges.due("sign 3 0 | stock 0 98 5 | days 5 | dismiss 0", "count 8", 0);
        Edges.due("sign 3 0 | stock 0 98 5 | days 5 | dismiss 0", "count 9", 0);
        Edges.due("sign 3 0 | stock 0 98 5 | days 6 | dismiss 0", "count 9", 2);
    }

    private static void payOffRefusals() {
        Edges.sentence("14: NOT_POSSIBLE at sea");
        Edges.due(CREW + " | days 1 | sail", "payOff", NOT_POSSIBLE);
        Edges.due(CREW + " | sail | days 1", "payOff", NOT_POSSIBLE);
        Edges.due(CREW + " | sail | days 1 | port", "payOff", 12);
        Edges.sentence("14: NOT_POSSIBLE without a day of this voyage");
        Edges.due("", "payOff", NOT_POSSIBLE);
        Edges.due(CREW, "payOff", NOT_POSSIBLE);
        Edges.due(CREW + " | days 1", "payOff", 6);
        Edges.due(CREW + " | days 1 | payOff", "payOff", NOT_POSSIBLE);
        Edges.due(CREW + " | days 1 | payOff | sail | port", "payOff", NOT_POSSIBLE);
        Edges.due(CREW + " | days 1 | payOff | days 1", "payOff", 6);
        Edges.sentence("14: also if nobody is there to be paid");
        Edges.due("days 1", "payOff", 0);
        Edges.due(CREW + " | days 1 | dismiss 0 | dismiss 1 | dismiss 2 | dismiss 3", "payOff", 0);
    }

    private static void payOffBalances() {
        String done = CREW + " | fine 0 9 | fine 1 10 | fine 2 21 | days 10 | payOff";
        Edges.sentence("14: gets the balance, if it is above 0, and has the balance 0 then");
        Edges.due(CREW + " | fine 0 9 | fine 1 10 | fine 2 21 | days 10", "payOff", 21);
        Edges.due(done, "sailor 0 12", 1);
        Edges.due(done, "sailor 0 3", 10000);
        Edges.due(done, "sailor 3 12", 20);
        Edges.sentence("14: a balance of 0 is neither paid nor carried");
        Edges.due(done, "sailor 1 12", 0);
        Edges.due(done, "sailor 1 11", 0);
        Edges.due(done, "count 16", 5);
        Edges.sentence("14: a balance below 0 is carried into the next voyage");
        Edges.due(done, "sailor 2 11", 1);
        Edges.due(done, "sailor 2 12", 0);
        Edges.due(done, "sailor 2 3", 9999);
        Edges.due(done, "sailor 2 4", 9999);
        Edges.due(done + " | days 1 | payOff", "sailor 2 11", 0);
        Edges.due(done + " | days 1 | payOff", "sailor 2 12", 1);
        Edges.due(done + " | fine 2 3 | days 1 | payOff", "sailor 2 11", 2);
        Edges.sentence("14: a debt may be carried with -4000");
        Edges.due(CREW + " | days 4 | " + TO_4000 + " | fine 0 4 | payOff", "sailor 0 11", 4000);
        Edges.due(CREW + " | days 4 | " + TO_4000 + " | fine 0 4 | payOff", "sailor 0 3", 6000);
    }

    private static void payOffWho() {
        Edges.sentence("14: those on leave are paid, and stay so");
        Edges.due(CREW + " | days 5 | leave 0", "payOff", 30);
        Edges.due(CREW + " | days 5 | leave 0 | payOff", "count 6", 5);
        Edges.due(CREW + " | days 5 | leave 0 | payOff", "sailor 2 12", 10);
        Edges.sentence("14: those who are gone are not paid");
        Edges.due(CREW + " | days 5 | dismiss 2", "payOff", 20);
        Edges.due(CREW + " | days 5 | dismiss 2 | payOff", "sailor 2 12", 10);
        Edges.due(CREW + " | days 5 | leave 0 | sail | port", "payOff", 15);
        Edges.due(CREW + " | days 5 | leave 0 | sail | port | payOff", "sailor 2 12", 0);
        Edges.due(CREW + " | days 5 | dismiss 2 | payOff", "count 7", 4);
        Edges.sentence("14: by the numbers");
        String done = CREW + " | days 5 | payOff";
        Edges.due(done, "count 16", 4);
        Edges.dueInRow(done, "book 0", 3, 3, 10);
        Edges.dueInRow(done, "book 1", 2, 3, 10);
        Edges.dueInRow(done, "book 2", 1, 3, 5);
        Edges.dueInRow(done, "book 3", 0, 3, 5);
        Edges.dueInRow(FULL + " | days 2 | payOff", "book 7", 8, 3, 1);
    }

    private static void payOffCash() {
        Edges.sentence("14: what is paid is taken from the cash, to the last coin");
        Edges.due(CREW + " | days 5 | stock 0 94 5 | payOff", "count 8", 0);
        Edges.due(CREW + " | days 5 | stock 0 94 5 | payOff", "count 9", 0);
        Edges.due(CREW + " | days 5 | stock 0 93 5 | payOff", "count 8", 5);
        Edges.due(CREW + " | days 5 | payOff", "count 12", 30);
        Edges.sentence("14: what is missing is drawn from the owners");
        Edges.due(CREW + " | days 5 | stock 0 95 5 | payOff", "count 9", 5);
        Edges.due(CREW + " | days 5 | stock 0 95 5 | payOff", "count 8", 0);
        Edges.due(CREW + " | days 5 | stock 0 50 10 | payOff", "count 9", 30);
    }

    private static void payOffNextVoyage() {
        String done = CREW + " | days 9 | stock 0 9 4 | sell 2 0 1 | fine 2 1 | advance 2 2 | payOff";
        Edges.sentence("14: the next one begins");
        Edges.due(done, "count 0", 1);
        Edges.due(done, "count 2", 0);
        Edges.due(done, "count 1", 0);
        Edges.dueInRow(done, "sailor 2", 3, 0, 0, 10000, 10000, 0, 0, 0, 0, 0, 0, 0, 10);
        Edges.due(CREW + " | 2*days 1 | payOff | days 1 | payOff", "count 0", 2);
        Edges.sentence("14: what is told so far goes on");
        Edges.due(done, "count 10", 36);
        Edges.due(done, "count 11", 2);
        Edges.due(done, "count 13", 5);
        Edges.due(done, "count 14", 1);
        Edges.due(done + " | days 1 | payOff", "count 12", 52);
        Edges.dueInRow(done, "item 0", 8, 5, 9, 1, 5);
        Edges.sentence("14: settings stay");
        Edges.due("set 0 7 | days 1 | payOff", "count 20", 7);
    }

    private static void setRanges() {
        Edges.sentence("15: what: 0 to 2");
        Edges.due("", "set 0 1", 50);
        Edges.due("", "set 1 1", 25);
        Edges.due("", "set 2 1", 2);
        Edges.dueOfEach("", INVALID, "set -1 0", "set 3 0", "set 20 0", "set " + Integer.MIN_VALUE + " 0",
                "set " + Integer.MAX_VALUE + " 0");
        Edges.sentence("Settings: 0 the bound of debts (0 to 500)");
        Edges.dueOfEach("", 50, "set 0 0", "set 0 500");
        Edges.dueOfEach("", INVALID, "set 0 -1", "set 0 501", "set 0 " + Integer.MIN_VALUE,
                "set 0 " + Integer.MAX_VALUE);
        Edges.sentence("Settings: 1 hundredths that are put on (0 to 200)");
        Edges.dueOfEach("", 25, "set 1 0", "set 1 200");
        Edges.dueOfEach("", INVALID, "set 1 -1", "set 1 201", "set 1 500");
        Edges.sentence("Settings: 2 coins for an hour late (0 to 50)");
        Edges.dueOfEach("", 2, "set 2 0", "set 2 50");
        Edges.dueOfEach("", INVALID, "set 2 -1", "set 2 51", "set 2 200");
    }

    private static void setAnswers() {
        Edges.sentence("15: returns what it was");
        Edges.due("set 0 0", "set 0 500", 0);
        Edges.due("set 0 500", "set 0 3", 500);
        Edges.due("set 0 3", "set 1 3", 25);
        Edges.sentence("15: the same value is a change, too");
        Edges.due("", "set 0 50", 50);
        Edges.due("set 0 50", "count 17", 1);
        Edges.sentence("15: it is that setting, and also set at sea");
        Edges.due("set 0 500 | set 1 200 | set 2 50", "count 20", 500);
        Edges.due("set 0 500 | set 1 200 | set 2 50", "count 21", 200);
        Edges.due("set 0 500 | set 1 200 | set 2 50", "count 22", 50);
        Edges.due("sail", "set 2 0", 2);
        Edges.due("sail | set 2 0", "count 22", 0);
    }
}
