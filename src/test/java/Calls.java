/** The calls of the face by name and by number. */
final class Calls {
    static final String[] NAMES = {"sign", "stock", "sell", "advance", "fine", "fineWatch", "leave", "back", "sail",
        "port", "days", "dismiss", "payOff", "set", "sailor", "item", "book", "why", "most", "clearIn", "ifPaidOff",
        "poorest", "share", "count", "undo", "type", "clearText", "fault", "play"};

    /** The calls up to this one are changes, if they return no error; so is play. */
    static final int LAST_CHANGE = 13;
    static final int LAST_QUESTION = 23;
    static final int FAULT = 27;
    static final int PLAY = 28;

    private Calls() {
    }

    static int numberOf(String name) {
        for (int which = 0; which < NAMES.length; which++) {
            if (NAMES[which].equals(name)) {
                return which;
            }
        }
        throw new IllegalArgumentException(name);
    }

    static boolean isChange(int which) {
        return which <= LAST_CHANGE || which == PLAY;
    }

    static boolean isQuestion(int which) {
        return which > LAST_CHANGE && which <= LAST_QUESTION || which == FAULT;
    }

    static int ask(PurserLedgers x, int which, int a, int b, int c) {
        switch (NAMES[which]) {
            case "sign": return x.sign(a, b);
            case "stock": return x.stock(a, b, c);
            case "sell": return x.sell(a, b, c);
            case "advance": return x.advance(a, b);
            case "fine": return x.fine(a, b);
            case "fineWatch": return x.fineWatch(a, b);
            case "leave": return x.leave(a);
            case "back": return x.back(a, b);
            case "sail": return x.sail();
            case "port": return x.port();
            case "days": return x.days(a);
            case "dismiss": return x.dismiss(a);
            case "payOff": return x.payOff();
            case "set": return x.set(a, b);
            case "sailor": return x.sailor(a, b);
            case "item": return x.item(a, b);
            case "book": return x.book(a, b);
            case "why": return x.why(a, b, c);
            case "most": return x.most(a, b);
            case "clearIn": return x.clearIn(a);
            case "ifPaidOff": return x.ifPaidOff(a);
            case "poorest": return x.poorest(a);
            case "share": return x.share();
            case "count": return x.count(a);
            case "undo": return x.undo();
            case "type": return x.type(a);
            case "clearText": return x.clearText();
            case "fault": return x.fault(a);
            default: return x.play();
        }
    }
}
