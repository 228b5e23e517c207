/**
 * The books of a ship's purser. DOC.md promises what each call answers.
 *
 * No call throws: what is wrong is told by one of the four error codes, which
 * are the only answers below 0. All rows are made with the object and used
 * again, so that a call makes no object.
 */
public final class PurserLedgers {
    public static final int INVALID_ARGUMENT = -1000001;
    public static final int NOT_POSSIBLE = -1000002;
    public static final int LIMIT_REACHED = -1000003;
    public static final int NOT_FOUND = -1000004;

    private static final int SAILORS_AT_MOST = 16;
    private static final int ITEMS = 6;
    private static final int STOCK_AT_MOST = 500;
    private static final int DAYS_AT_MOST = 999;
    private static final int ENTRIES_KEPT = 8;
    private static final int STATES_KEPT = 4;
    private static final int TEXT_AT_MOST = 60;

    private static final int HIGHEST_RANK = 3;
    private static final int HIGHEST_WATCH = 1;
    private static final int MANY_AT_MOST = 99;
    private static final int COST_AT_MOST = 99;
    private static final int COINS_AT_MOST = 999;
    private static final int HOURS_AT_MOST = 99;
    private static final int LOWEST_BALANCE = -4000;
    private static final int CLEAR_WITHIN = 400;
    private static final int FIRST_CASH = 500;

    private static final int ABOARD = 0;
    private static final int ON_LEAVE = 1;
    private static final int GONE = 2;

    private static final int CHEST = 0;
    private static final int FINE = 1;
    private static final int ADVANCE = 2;
    private static final int PAID = 3;

    private static final int DEBT_BOUND = 0;
    private static final int PUT_ON = 1;
    private static final int LATE_HOUR = 2;
    private static final int[] HIGHEST_SETTINGS = {500, 200, 50};
    private static final int[] FIRST_SETTINGS = {50, 25, 2};

    // What is added to numbers that may be below 0, to tell them from errors.
    private static final int BALANCE_TOLD_FROM = 10000;
    private static final int FINED_TOLD_FROM = 5000;
    private static final int FORFEIT_TOLD_FROM = 100000;

    private static final int NO_CHARACTER = -1;
    private static final int NO_ORDER = -1;
    private static final int DIGITS_AT_MOST = 3;
    private static final int NUMBERS_AT_MOST = 3;
    private static final int BAD_FORM = 1;
    private static final int REFUSED = 2;

    private final Books now;
    private final Books trial;
    private final History history;
    private final Text text;
    private final Rehearsal rehearsal;

    public PurserLedgers() {
        now = new Books();
        trial = new Books();
        history = new History();
        text = new Text();
        rehearsal = new Rehearsal();
    }

    // ---- sailors, the chest

    public int sign(int rank, int watch) {
        return settleTrial(newTrial().signOn(rank, watch));
    }

    public int stock(int item, int many, int cost) {
        return settleTrial(newTrial().buyForChest(item, many, cost));
    }

    public int sell(int sailor, int item, int many) {
        return settleTrial(newTrial().sellFromChest(sailor, item, many));
    }

    // ---- advances, fines

    public int advance(int sailor, int coins) {
        return settleTrial(newTrial().advanceTo(sailor, coins));
    }

    public int fine(int sailor, int coins) {
        return settleTrial(newTrial().fineOne(sailor, coins));
    }

    public int fineWatch(int watch, int coins) {
        return settleTrial(newTrial().fineAll(watch, coins));
    }

    // ---- the ship

    public int leave(int watch) {
        return settleTrial(newTrial().letAshore(watch));
    }

    public int back(int sailor, int hours) {
        return settleTrial(newTrial().comeBack(sailor, hours));
    }

    public int sail() {
        return settleTrial(newTrial().putToSea());
    }

    public int port() {
        return settleTrial(newTrial().comeIntoPort());
    }

    public int days(int many) {
        return settleTrial(newTrial().passDays(many));
    }

    public int dismiss(int sailor) {
        return settleTrial(newTrial().sendAway(sailor));
    }

    public int payOff() {
        return settleTrial(newTrial().endVoyage());
    }

    public int set(int what, int value) {
        return settleTrial(newTrial().changeSetting(what, value));
    }

    // ---- what there is

    public int sailor(int sailor, int what) {
        Sailor row = now.findSailor(sailor);
        return row == null ? INVALID_ARGUMENT : row.tell(what);
    }

    public int item(int item, int what) {
        Item row = now.findItem(item);
        return row == null ? INVALID_ARGUMENT : row.tell(what);
    }

    public int book(int ago, int what) {
        return now.entries.tell(ago, what);
    }

    // ---- what would be

    public int why(int sailor, int item, int many) {
        return now.reasonNotToSell(sailor, item, many);
    }

    public int most(int sailor, int item) {
        return now.couldBuy(sailor, item);
    }

    public int clearIn(int sailor) {
        return now.daysUntilClear(sailor);
    }

    public int ifPaidOff(int what) {
        return now.tellPayingOff(what);
    }

    public int poorest(int place) {
        return now.sailorByBalance(place);
    }

    public int share() {
        return now.chargedShare();
    }

    public int count(int what) {
        if (what == 17) {
            return history.kept;
        }
        if (what == 18) {
            return text.length;
        }
        return now.tell(what);
    }

    public int undo() {
        return history.restoreInto(now);
    }

    // ---- texts

    public int type(int character) {
        return text.append(character);
    }

    public int clearText() {
        return text.empty();
    }

    public int fault(int what) {
        if (!within(what, 0, 2)) {
            return INVALID_ARGUMENT;
        }
        rehearsal.runThrough(text, newTrial());
        return rehearsal.tellFault(what);
    }

    public int play() {
        rehearsal.runThrough(text, newTrial());
        return settleTrial(rehearsal.isFaulty() ? NOT_POSSIBLE : rehearsal.done);
    }

    /** Changes are tried on a copy, so that one with an error leaves no trace. */
    private Books newTrial() {
        trial.copyFrom(now);
        return trial;
    }

    private int settleTrial(int answer) {
        if (answer >= 0) {
            history.record(now);
            now.copyFrom(trial);
        }
        return answer;
    }

    private static boolean within(int value, int lowest, int highest) {
        return value >= lowest && value <= highest;
    }

    private static void copyNumbers(int[] from, int[] to) {
        for (int k = 0; k < from.length && k < to.length; k++) {
            to[k] = from[k];
        }
    }

    /** The bits of a float that is 0 or a normal one above 0 (the language has no call for it). */
    private static int bitsOf(float value) {
        if (!(value > 0f)) {
            return 0;
        }
        float part = value;
        int exponent = 127;
        for (int k = 0; k < 128 && part >= 2f; k++) {
            part = part / 2f;
            exponent++;
        }
        for (int k = 0; k < 128 && part < 1f; k++) {
            part = part * 2f;
            exponent--;
        }
        return (exponent << 23) + (int) ((part - 1f) * 8388608f);
    }

    /** One sailor: who it is, and the sums of this voyage. */
    private static final class Sailor {
        int rank;
        int watch;
        int whereabouts;
        int seaDays;
        int portDays;
        int bought;
        int fines;
        int advances;
        int debt;
        int paid;

        void copyFrom(Sailor other) {
            rank = other.rank;
            watch = other.watch;
            whereabouts = other.whereabouts;
            seaDays = other.seaDays;
            portDays = other.portDays;
            bought = other.bought;
            fines = other.fines;
            advances = other.advances;
            debt = other.debt;
            paid = other.paid;
        }

        void comeAboard(int newRank, int newWatch) {
            rank = newRank;
            watch = newWatch;
            whereabouts = ABOARD;
            paid = 0;
            beginVoyage(0);
        }

        void beginVoyage(int carriedDebt) {
            seaDays = 0;
            portDays = 0;
            bought = 0;
            fines = 0;
            advances = 0;
            debt = carriedDebt;
        }

        /** With empty sums, as all that is told of one who is gone is 0. */
        void goAway() {
            whereabouts = GONE;
            beginVoyage(0);
        }

        boolean isGone() {
            return whereabouts == GONE;
        }

        boolean isOfWatch(int which) {
            return watch == which && !isGone();
        }

        void passDays(int many, boolean atSea) {
            if (atSea) {
                seaDays += many;
            } else {
                portDays += many;
            }
        }

        int earned() {
            return wages(seaDays, portDays);
        }

        int earnedAfter(int more, boolean atSea) {
            return atSea ? wages(seaDays + more, portDays) : wages(seaDays, portDays + more);
        }

        int wages(int sea, int inPort) {
            switch (rank) {
                case 0:
                    return (sea + inPort) / 2;
                case 1:
                    return 2 * sea + inPort;
                case 2:
                    return 2 * (sea + inPort) + (sea + inPort) / 7;
                default:
                    return 4 * sea + 2 * inPort;
            }
        }

        int charged() {
            return bought + fines + advances;
        }

        int balance() {
            return wages(seaDays, portDays) - debt - charged();
        }

        boolean couldBeFined(int coins) {
            return balance() - coins >= LOWEST_BALANCE;
        }

        int tell(int what) {
            switch (what) {
                case 0:
                    return rank;
                case 1:
                    return watch;
                case 2:
                    return whereabouts;
                case 3:
                case 4:
                    return BALANCE_TOLD_FROM + balance();
                case 5:
                    return seaDays;
                case 6:
                    return portDays;
                case 7:
                    return earned();
                case 8:
                    return bought;
                case 9:
                    return fines;
                case 10:
                    return advances;
                case 11:
                    return debt;
                case 12:
                    return paid;
                default:
                    return INVALID_ARGUMENT;
            }
        }
    }

    /** One item of the slop chest. */
    private static final class Item {
        int inStock;
        int price;
        int bought;
        int sold;
        int charged;

        void copyFrom(Item other) {
            inStock = other.inStock;
            price = other.price;
            bought = other.bought;
            sold = other.sold;
            charged = other.charged;
        }

        void takeIn(int many, int newPrice) {
            inStock += many;
            bought += many;
            price = newPrice;
        }

        void giveOut(int many, int coins) {
            inStock -= many;
            sold += many;
            charged += coins;
        }

        int tell(int what) {
            switch (what) {
                case 0:
                    return inStock;
                case 1:
                    return price;
                case 2:
                    return bought;
                case 3:
                    return sold;
                case 4:
                    return charged;
                default:
                    return INVALID_ARGUMENT;
            }
        }
    }

    /** The book: the latest entries, the latest one first. */
    private static final class Entries {
        final int[] sailors;
        final int[] kinds;
        final int[] coins;
        int kept;

        Entries() {
            sailors = new int[ENTRIES_KEPT];
            kinds = new int[ENTRIES_KEPT];
            coins = new int[ENTRIES_KEPT];
        }

        void copyFrom(Entries other) {
            copyNumbers(other.sailors, sailors);
            copyNumbers(other.kinds, kinds);
            copyNumbers(other.coins, coins);
            kept = other.kept;
        }

        void enter(int sailor, int kind, int amount) {
            if (amount <= 0) {
                return;
            }
            putAhead(sailors, sailor);
            putAhead(kinds, kind);
            putAhead(coins, amount);
            if (kept < ENTRIES_KEPT) {
                kept++;
            }
        }

        private static void putAhead(int[] row, int value) {
            for (int k = row.length - 1; k > 0; k--) {
                row[k] = row[k - 1];
            }
            if (row.length > 0) {
                row[0] = value;
            }
        }

        int tell(int ago, int what) {
            if (ago < 0 || !within(what, 0, 2)) {
                return INVALID_ARGUMENT;
            }
            if (ago >= kept) {
                return NOT_FOUND;
            }
            return numberAt(what == 0 ? sailors : what == 1 ? kinds : coins, ago);
        }

        private static int numberAt(int[] row, int place) {
            return place >= 0 && place < row.length ? row[place] : NOT_FOUND;
        }
    }

    /** The cash, and sums over all voyages. */
    private static final class Totals {
        int cash;
        int drawn;
        int spent;
        int advanced;
        int paid;
        int charged;
        int fines;
        int forfeit;

        Totals() {
            cash = FIRST_CASH;
        }

        void copyFrom(Totals other) {
            cash = other.cash;
            drawn = other.drawn;
            spent = other.spent;
            advanced = other.advanced;
            paid = other.paid;
            charged = other.charged;
            fines = other.fines;
            forfeit = other.forfeit;
        }

        int missingFor(int coins) {
            return coins > cash ? coins - cash : 0;
        }

        void takeCash(int coins) {
            int missing = missingFor(coins);
            drawn += missing;
            cash += missing - coins;
        }
    }

    /** All that a change can change and that undoing restores. */
    private static final class Books {
        final Sailor[] crew;
        final Item[] chest;
        final int[] settings;
        final Entries entries;
        final Totals totals;
        int signed;
        int voyage;
        int voyageDays;
        int ports;
        boolean atSea;

        Books() {
            crew = new Sailor[SAILORS_AT_MOST];
            for (int k = 0; k < crew.length; k++) {
                crew[k] = new Sailor();
            }
            chest = new Item[ITEMS];
            for (int k = 0; k < chest.length; k++) {
                chest[k] = new Item();
            }
            settings = new int[FIRST_SETTINGS.length];
            copyNumbers(FIRST_SETTINGS, settings);
            entries = new Entries();
            totals = new Totals();
        }

        void copyFrom(Books other) {
            for (int k = 0; k < crew.length && k < other.crew.length; k++) {
                crew[k].copyFrom(other.crew[k]);
            }
            for (int k = 0; k < chest.length && k < other.chest.length; k++) {
                chest[k].copyFrom(other.chest[k]);
            }
            copyNumbers(other.settings, settings);
            entries.copyFrom(other.entries);
            totals.copyFrom(other.totals);
            signed = other.signed;
            voyage = other.voyage;
            voyageDays = other.voyageDays;
            ports = other.ports;
            atSea = other.atSea;
        }

        /** Null if there is no sailor with this number. */
        Sailor findSailor(int number) {
            return number >= 0 && number < signed && number < crew.length ? crew[number] : null;
        }

        /** Null if there is no item with this number. */
        Item findItem(int number) {
            return number >= 0 && number < chest.length ? chest[number] : null;
        }

        int setting(int what) {
            return what >= 0 && what < settings.length ? settings[what] : 0;
        }

        int signOn(int rank, int watch) {
            if (!within(rank, 0, HIGHEST_RANK) || !within(watch, 0, HIGHEST_WATCH)) {
                return INVALID_ARGUMENT;
            }
            if (atSea) {
                return NOT_POSSIBLE;
            }
            int number = signed;
            if (number < 0 || number >= crew.length) {
                return LIMIT_REACHED;
            }
            crew[number].comeAboard(rank, watch);
            signed++;
            return number;
        }

        int buyForChest(int number, int many, int cost) {
            Item item = findItem(number);
            if (item == null || !within(many, 1, MANY_AT_MOST) || !within(cost, 1, COST_AT_MOST)) {
                return INVALID_ARGUMENT;
            }
            if (atSea) {
                return NOT_POSSIBLE;
            }
            if (item.inStock + many > STOCK_AT_MOST) {
                return LIMIT_REACHED;
            }
            totals.spent += many * cost;
            totals.takeCash(many * cost);
            item.takeIn(many, cost + cost * setting(PUT_ON) / 100);
            return item.price;
        }

        int sellFromChest(int number, int itemNumber, int many) {
            Sailor sailor = findSailor(number);
            Item item = findItem(itemNumber);
            if (sailor == null || item == null || !within(many, 1, MANY_AT_MOST)) {
                return INVALID_ARGUMENT;
            }
            if (reasonAgainst(sailor, item, many) != 0) {
                return NOT_POSSIBLE;
            }
            int coins = many * item.price;
            item.giveOut(many, coins);
            sailor.bought += coins;
            totals.charged += coins;
            entries.enter(number, CHEST, coins);
            return coins;
        }

        int reasonNotToSell(int number, int itemNumber, int many) {
            Sailor sailor = findSailor(number);
            Item item = findItem(itemNumber);
            if (sailor == null || item == null || !within(many, 1, MANY_AT_MOST)) {
                return INVALID_ARGUMENT;
            }
            return reasonAgainst(sailor, item, many);
        }

        private int reasonAgainst(Sailor sailor, Item item, int many) {
            if (sailor.whereabouts != ABOARD) {
                return 1;
            }
            if (item.inStock < many) {
                return 2;
            }
            return sailor.balance() - many * item.price < -setting(DEBT_BOUND) ? 3 : 0;
        }

        int couldBuy(int number, int itemNumber) {
            Sailor sailor = findSailor(number);
            Item item = findItem(itemNumber);
            if (sailor == null || item == null) {
                return INVALID_ARGUMENT;
            }
            int coins = sailor.balance() + setting(DEBT_BOUND);
            // An item that was never bought has no price, but no stock either.
            if (sailor.whereabouts != ABOARD || item.price <= 0 || coins < 0) {
                return 0;
            }
            return Math.min(Math.min(coins / item.price, item.inStock), MANY_AT_MOST);
        }

        int advanceTo(int number, int coins) {
            Sailor sailor = findSailor(number);
            if (sailor == null || !within(coins, 1, COINS_AT_MOST)) {
                return INVALID_ARGUMENT;
            }
            if (atSea || sailor.isGone() || sailor.balance() < coins) {
                return NOT_POSSIBLE;
            }
            sailor.advances += coins;
            totals.advanced += coins;
            totals.takeCash(coins);
            entries.enter(number, ADVANCE, coins);
            return totals.cash;
        }

        int fineOne(int number, int coins) {
            Sailor sailor = findSailor(number);
            if (sailor == null || !within(coins, 1, COINS_AT_MOST)) {
                return INVALID_ARGUMENT;
            }
            if (sailor.isGone() || !sailor.couldBeFined(coins)) {
                return NOT_POSSIBLE;
            }
            chargeFine(number, sailor, coins);
            return FINED_TOLD_FROM + sailor.balance();
        }

        void chargeFine(int number, Sailor sailor, int coins) {
            sailor.fines += coins;
            totals.fines += coins;
            entries.enter(number, FINE, coins);
        }

        int fineAll(int watch, int coins) {
            if (!within(watch, 0, HIGHEST_WATCH) || !within(coins, 1, COINS_AT_MOST)) {
                return INVALID_ARGUMENT;
            }
            int many = sizeOfWatch(watch);
            if (many <= 0) {
                return NOT_POSSIBLE;
            }
            int part = coins / many;
            int leftOver = coins % many;
            if (!couldAllBeFined(watch, part, leftOver)) {
                return NOT_POSSIBLE;
            }
            for (int k = 0; k < signed && k < crew.length; k++) {
                if (crew[k].isOfWatch(watch)) {
                    chargeFine(k, crew[k], leftOver > 0 ? part + 1 : part);
                    leftOver--;
                }
            }
            return many;
        }

        boolean couldAllBeFined(int watch, int part, int leftOver) {
            int left = leftOver;
            for (int k = 0; k < signed && k < crew.length; k++) {
                if (crew[k].isOfWatch(watch)) {
                    if (!crew[k].couldBeFined(left > 0 ? part + 1 : part)) {
                        return false;
                    }
                    left--;
                }
            }
            return true;
        }

        int sizeOfWatch(int watch) {
            int many = 0;
            for (int k = 0; k < signed && k < crew.length; k++) {
                if (crew[k].isOfWatch(watch)) {
                    many++;
                }
            }
            return many;
        }

        int letAshore(int watch) {
            if (!within(watch, 0, HIGHEST_WATCH)) {
                return INVALID_ARGUMENT;
            }
            if (atSea || setOf(ON_LEAVE) != 0) {
                return NOT_POSSIBLE;
            }
            int going = 0;
            for (int k = 0; k < signed && k < crew.length; k++) {
                if (crew[k].isOfWatch(watch)) {
                    crew[k].whereabouts = ON_LEAVE;
                    going++;
                }
            }
            return going == 0 ? NOT_POSSIBLE : going;
        }

        int comeBack(int number, int hours) {
            Sailor sailor = findSailor(number);
            if (sailor == null || !within(hours, 0, HOURS_AT_MOST)) {
                return INVALID_ARGUMENT;
            }
            int coins = hours * setting(LATE_HOUR);
            if (sailor.whereabouts != ON_LEAVE || !sailor.couldBeFined(coins)) {
                return NOT_POSSIBLE;
            }
            sailor.whereabouts = ABOARD;
            chargeFine(number, sailor, coins);
            return coins;
        }

        int putToSea() {
            if (atSea) {
                return NOT_POSSIBLE;
            }
            int leftBehind = 0;
            for (int k = 0; k < signed && k < crew.length; k++) {
                if (crew[k].whereabouts == ON_LEAVE) {
                    totals.forfeit += crew[k].balance();
                    crew[k].goAway();
                    leftBehind++;
                }
            }
            atSea = true;
            return leftBehind;
        }

        int comeIntoPort() {
            if (!atSea) {
                return NOT_POSSIBLE;
            }
            atSea = false;
            ports++;
            return ports;
        }

        int passDays(int many) {
            if (!within(many, 1, MANY_AT_MOST)) {
                return INVALID_ARGUMENT;
            }
            if (voyageDays + many > DAYS_AT_MOST) {
                return LIMIT_REACHED;
            }
            for (int k = 0; k < signed && k < crew.length; k++) {
                if (!crew[k].isGone()) {
                    crew[k].passDays(many, atSea);
                }
            }
            voyageDays += many;
            return voyageDays;
        }

        int sendAway(int number) {
            Sailor sailor = findSailor(number);
            if (sailor == null) {
                return INVALID_ARGUMENT;
            }
            int coins = sailor.balance();
            if (atSea || sailor.isGone() || coins < 0) {
                return NOT_POSSIBLE;
            }
            payTo(number, sailor, coins);
            sailor.goAway();
            return coins;
        }

        void payTo(int number, Sailor sailor, int coins) {
            sailor.paid += coins;
            totals.paid += coins;
            totals.takeCash(coins);
            entries.enter(number, PAID, coins);
        }

        int endVoyage() {
            if (atSea || voyageDays == 0) {
                return NOT_POSSIBLE;
            }
            int together = 0;
            for (int k = 0; k < signed && k < crew.length; k++) {
                int balance = crew[k].balance();
                if (balance > 0) {
                    payTo(k, crew[k], balance);
                    together += balance;
                }
                crew[k].beginVoyage(balance < 0 ? -balance : 0);
            }
            voyage++;
            voyageDays = 0;
            return together;
        }

        int changeSetting(int what, int value) {
            if (what < 0 || what >= settings.length || what >= HIGHEST_SETTINGS.length
                    || !within(value, 0, HIGHEST_SETTINGS[what])) {
                return INVALID_ARGUMENT;
            }
            int before = settings[what];
            settings[what] = value;
            return before;
        }

        int daysUntilClear(int number) {
            Sailor sailor = findSailor(number);
            if (sailor == null) {
                return INVALID_ARGUMENT;
            }
            if (sailor.isGone()) {
                return NOT_POSSIBLE;
            }
            int owed = sailor.debt + sailor.charged();
            for (int many = 0; many <= CLEAR_WITHIN; many++) {
                if (sailor.earnedAfter(many, atSea) >= owed) {
                    return many;
                }
            }
            return NOT_FOUND;
        }

        int tellPayingOff(int what) {
            switch (what) {
                case 0:
                    return wouldBePaid();
                case 1:
                    return totals.missingFor(wouldBePaid());
                case 2:
                    return debtsTogether();
                case 3:
                    return setOfDebtors();
                default:
                    return INVALID_ARGUMENT;
            }
        }

        int wouldBePaid() {
            int coins = 0;
            for (int k = 0; k < signed && k < crew.length; k++) {
                coins += Math.max(0, crew[k].balance());
            }
            return coins;
        }

        int debtsTogether() {
            int coins = 0;
            for (int k = 0; k < signed && k < crew.length; k++) {
                coins += Math.max(0, -crew[k].balance());
            }
            return coins;
        }

        int setOfDebtors() {
            int bits = 0;
            for (int k = 0; k < signed && k < crew.length; k++) {
                if (crew[k].balance() < 0) {
                    bits |= 1 << k;
                }
            }
            return bits;
        }

        int setOf(int whereabouts) {
            int bits = 0;
            for (int k = 0; k < signed && k < crew.length; k++) {
                if (crew[k].whereabouts == whereabouts) {
                    bits |= 1 << k;
                }
            }
            return bits;
        }

        int sailorByBalance(int place) {
            if (place < 0) {
                return INVALID_ARGUMENT;
            }
            for (int k = 0; k < signed && k < crew.length; k++) {
                if (!crew[k].isGone() && poorerThan(k, crew[k].balance()) == place) {
                    return k;
                }
            }
            return NOT_FOUND;
        }

        int poorerThan(int number, int balance) {
            int many = 0;
            for (int k = 0; k < signed && k < crew.length; k++) {
                int other = crew[k].balance();
                if (!crew[k].isGone() && (other < balance || other == balance && k < number)) {
                    many++;
                }
            }
            return many;
        }

        /** Those who are gone have neither earned nor been charged anything. */
        int chargedShare() {
            int earned = 0;
            int charged = 0;
            for (int k = 0; k < signed && k < crew.length; k++) {
                earned += crew[k].earned();
                charged += crew[k].charged();
            }
            return earned <= 0 ? NOT_FOUND : bitsOf((float) charged / (float) earned);
        }

        int tell(int what) {
            switch (what) {
                case 0:
                    return voyage;
                case 1:
                    return atSea ? 1 : 0;
                case 2:
                    return voyageDays;
                case 3:
                    return ports;
                case 4:
                    return signed;
                case 5:
                    return setOf(ABOARD);
                case 6:
                    return setOf(ON_LEAVE);
                case 7:
                    return setOf(GONE);
                case 16:
                    return entries.kept;
                case 20:
                    return setting(DEBT_BOUND);
                case 21:
                    return setting(PUT_ON);
                case 22:
                    return setting(LATE_HOUR);
                default:
                    return tellCoins(what);
            }
        }

        int tellCoins(int what) {
            switch (what) {
                case 8:
                    return totals.cash;
                case 9:
                    return totals.drawn;
                case 10:
                    return totals.spent;
                case 11:
                    return totals.advanced;
                case 12:
                    return totals.paid;
                case 13:
                    return totals.charged;
                case 14:
                    return totals.fines;
                case 15:
                    return FORFEIT_TOLD_FROM + totals.forfeit;
                default:
                    return INVALID_ARGUMENT;
            }
        }
    }

    /** The states before the latest changes, the latest one first. */
    private static final class History {
        final Books[] states;
        int kept;

        History() {
            states = new Books[STATES_KEPT];
            for (int k = 0; k < states.length; k++) {
                states[k] = new Books();
            }
        }

        void record(Books books) {
            int last = states.length - 1;
            if (last < 0) {
                return;
            }
            Books oldest = states[last];
            for (int k = last; k > 0; k--) {
                states[k] = states[k - 1];
            }
            states[0] = oldest;
            oldest.copyFrom(books);
            if (kept < STATES_KEPT) {
                kept++;
            }
        }

        int restoreInto(Books books) {
            int last = states.length - 1;
            if (kept <= 0 || last < 0) {
                return NOT_POSSIBLE;
            }
            Books latest = states[0];
            for (int k = 0; k < last; k++) {
                states[k] = states[k + 1];
            }
            states[last] = latest;
            books.copyFrom(latest);
            kept--;
            return kept;
        }
    }

    /** The text of orders. */
    private static final class Text {
        final int[] characters;
        int length;

        Text() {
            characters = new int[TEXT_AT_MOST];
        }

        int append(int character) {
            if (!within(character, 32, 126)) {
                return INVALID_ARGUMENT;
            }
            if (length < 0 || length >= characters.length) {
                return LIMIT_REACHED;
            }
            characters[length] = character;
            length++;
            return length;
        }

        int empty() {
            int had = length;
            length = 0;
            return had;
        }

        int at(int place) {
            return place >= 0 && place < length && place < characters.length
                    ? characters[place] : NO_CHARACTER;
        }
    }

    /** One order, as it is read from a text. */
    private static final class Order {
        final int[] numbers;
        int letter;
        /** Behind the order when it was read, or where it breaks off. */
        int place;

        Order() {
            numbers = new int[NUMBERS_AT_MOST];
        }

        /** Tells whether an order of the right form begins there. */
        boolean readFrom(Text text, int start) {
            place = start;
            letter = text.at(start);
            int wanted = numbersOf(letter);
            if (wanted == NO_ORDER) {
                return false;
            }
            place++;
            for (int k = 0; k < wanted && k < numbers.length; k++) {
                if (k > 0 && !readSign(text, ',')) {
                    return false;
                }
                int number = readNumber(text);
                if (number < 0) {
                    return false;
                }
                numbers[k] = number;
            }
            return readSign(text, ';');
        }

        private static int numbersOf(int letter) {
            switch (letter) {
                case 'o':
                case 'p':
                case 'e':
                    return 0;
                case 'd':
                case 'l':
                    return 1;
                case 'h':
                case 'a':
                case 'f':
                case 'r':
                    return 2;
                case 'b':
                case 'v':
                    return 3;
                default:
                    return NO_ORDER;
            }
        }

        private boolean readSign(Text text, int sign) {
            if (text.at(place) != sign) {
                return false;
            }
            place++;
            return true;
        }

        /** Below 0 if there is no digit. */
        private int readNumber(Text text) {
            int number = -1;
            for (int k = 0; k < DIGITS_AT_MOST && within(text.at(place), '0', '9'); k++) {
                number = Math.max(number, 0) * 10 + text.at(place) - '0';
                place++;
            }
            return number;
        }

        private int number(int which) {
            return which >= 0 && which < numbers.length ? numbers[which] : 0;
        }

        int carryOut(Books books) {
            switch (letter) {
                case 'h':
                    return books.signOn(number(0), number(1));
                case 'b':
                    return books.buyForChest(number(0), number(1), number(2));
                case 'v':
                    return books.sellFromChest(number(0), number(1), number(2));
                case 'a':
                    return books.advanceTo(number(0), number(1));
                case 'f':
                    return books.fineOne(number(0), number(1));
                case 'd':
                    return books.passDays(number(0));
                case 'l':
                    return books.letAshore(number(0));
                case 'r':
                    return books.comeBack(number(0), number(1));
                case 'o':
                    return books.putToSea();
                case 'p':
                    return books.comeIntoPort();
                default:
                    return books.endVoyage();
            }
        }
    }

    /** Runs through the orders of a text on books, up to its fault. */
    private static final class Rehearsal {
        final Order order;
        int done;
        int position;
        int reason;
        int cause;

        Rehearsal() {
            order = new Order();
        }

        void runThrough(Text text, Books books) {
            done = 0;
            position = 0;
            reason = 0;
            cause = 0;
            // An order takes a character at least, so that there are no more orders than these.
            for (int k = 0; k < TEXT_AT_MOST && position < text.length; k++) {
                if (!order.readFrom(text, position)) {
                    reason = BAD_FORM;
                    cause = order.place - position;
                    return;
                }
                int answer = order.carryOut(books);
                if (answer < 0) {
                    reason = REFUSED;
                    cause = answer;
                    return;
                }
                position = order.place;
                done++;
            }
        }

        boolean isFaulty() {
            return reason != 0;
        }

        int tellFault(int what) {
            if (!isFaulty()) {
                return NOT_FOUND;
            }
            return what == 0 ? position : what == 1 ? reason : cause;
        }
    }
}
