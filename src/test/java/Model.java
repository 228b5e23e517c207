import java.util.ArrayList;
import java.util.Comparator;
import java.util.List;
import java.util.regex.Matcher;
import java.util.regex.Pattern;

/**
 * The document once more, told another way: days one by one, balances entry by
 * entry, texts by regular expressions, what would be by doing it to a copy.
 */
final class Model {
    private static final int INVALID = Due.INVALID;
    private static final int NOT_POSSIBLE = Due.NOT_POSSIBLE;
    private static final int LIMIT = Due.LIMIT;
    private static final int NOT_FOUND = Due.NOT_FOUND;
    private static final String N = "(\\d{1,3})";
    private static final Pattern ORDER = Pattern.compile("([hafr])" + N + "," + N + ";|([bv])" + N + "," + N + "," + N
            + ";|([dl])" + N + ";|([ope]);");

    static final class Man {
        final int rank;
        final int watch;
        int place = 0;
        int sea = 0;
        int harbour = 0;
        int carried = 0;
        int running = 0;
        int paid = 0;
        int[] charges = new int[3];

        Man(int rank, int watch) {
            this.rank = rank;
            this.watch = watch;
        }

        Man(Man m) {
            this(m.rank, m.watch);
            place = m.place;
            sea = m.sea;
            harbour = m.harbour;
            carried = m.carried;
            running = m.running;
            paid = m.paid;
            charges = m.charges.clone();
        }

        int earned() {
            int d = sea;
            int p = harbour;
            int[] byRank = {(d + p) / 2, 2 * d + p, 2 * (d + p) + (d + p) / 7, 4 * d + 2 * p};
            return byRank[rank];
        }

        void day(boolean atSea) {
            int before = earned();
            if (atSea) {
                sea++;
            } else {
                harbour++;
            }
            running += earned() - before;
        }

        int toldBySums() {
            return earned() + carried - charges[0] - charges[1] - charges[2];
        }

        void begin() {
            carried = running;
            sea = 0;
            harbour = 0;
            charges = new int[3];
        }

        void away() {
            running = 0;
            begin();
            place = 2;
        }
    }

    private List<Man> men = new ArrayList<>();
    private int[][] items = new int[6][5];
    private List<int[]> entries = new ArrayList<>();
    private int[] settings = {50, 25, 2};
    private boolean sea = false;
    private int voyage = 0;
    private int voyageDays = 0;
    private int ports = 0;
    private int cash = 500;
    private int drawn = 0;
    private int spent = 0;
    private int advanced = 0;
    private int paid = 0;
    private int sold = 0;
    private int fines = 0;
    private int forfeit = 0;
    private List<Model> history = new ArrayList<>();
    private String text = "";

    private Model copy() {
        Model m = new Model();
        m.restore(this);
        return m;
    }

    /** All but the history and the text. */
    private void restore(Model m) {
        men = new ArrayList<>();
        for (Man man : m.men) {
            men.add(new Man(man));
        }
        for (int k = 0; k < 6; k++) {
            items[k] = m.items[k].clone();
        }
        entries = new ArrayList<>(m.entries);
        settings = m.settings.clone();
        sea = m.sea;
        voyage = m.voyage;
        voyageDays = m.voyageDays;
        ports = m.ports;
        cash = m.cash;
        drawn = m.drawn;
        spent = m.spent;
        advanced = m.advanced;
        paid = m.paid;
        sold = m.sold;
        fines = m.fines;
        forfeit = m.forfeit;
    }

    private static boolean out(int value, int low, int high) {
        return value < low || value > high;
    }

    private boolean noMan(int k) {
        return k < 0 || k >= men.size();
    }

    private void take(int coins) {
        for (int k = 0; k < coins; k++) {
            if (cash > 0) {
                cash--;
            } else {
                drawn++;
            }
        }
    }

    private void charge(int k, int kind, int coins) {
        men.get(k).running -= coins;
        men.get(k).charges[kind] += coins;
        if (kind == 0) {
            sold += coins;
        } else if (kind == 1) {
            fines += coins;
        } else {
            advanced += coins;
        }
        if (coins > 0) {
            entries.add(new int[] {k, kind, coins});
        }
    }

    private void pay(int k) {
        Man m = men.get(k);
        if (m.running > 0) {
            take(m.running);
            paid += m.running;
            m.paid += m.running;
            entries.add(new int[] {k, 3, m.running});
            m.running = 0;
        }
    }

    int call(int which, int a, int b, int c) {
        String name = Calls.NAMES[which];
        Model before = copy();
        int answer = answer(name, a, b, c);
        boolean changes = which <= 13 || name.equals("play");
        if (changes && answer > -1000000) {
            history.add(before);
            if (history.size() > 4) {
                history.remove(0);
            }
        } else if (changes) {
            restore(before);
        }
        return answer;
    }

    private int answer(String name, int a, int b, int c) {
        switch (name) {
            case "sailor": return sailor(a, b);
            case "item": return out(a, 0, 5) || out(b, 0, 4) ? INVALID : items[a][b];
            case "book": return a < 0 || out(b, 0, 2) ? INVALID : a >= Math.min(8, entries.size()) ? NOT_FOUND
                    : entries.get(entries.size() - 1 - a)[b];
            case "why": return why(a, b, c);
            case "most": return most(a, b);
            case "clearIn": return clearIn(a);
            case "ifPaidOff": return ifPaidOff(a);
            case "poorest": return poorest(a);
            case "share": return share();
            case "count": return count(a);
            case "undo":
                if (history.isEmpty()) {
                    return NOT_POSSIBLE;
                }
                restore(history.remove(history.size() - 1));
                return history.size();
            case "type":
                if (out(a, 32, 126)) {
                    return INVALID;
                }
                if (text.length() == 60) {
                    return LIMIT;
                }
                text += (char) a;
                return text.length();
            case "clearText":
                int had = text.length();
                text = "";
                return had;
            case "fault": return fault(a);
            case "play":
                int[] result = run();
                return result[1] == 0 ? result[0] : NOT_POSSIBLE;
            default: return change(name, a, b, c);
        }
    }

    private int change(String name, int a, int b, int c) {
        switch (name) {
            case "sign":
                if (out(a, 0, 3) || out(b, 0, 1)) {
                    return INVALID;
                }
                if (sea) {
                    return NOT_POSSIBLE;
                }
                if (men.size() == 16) {
                    return LIMIT;
                }
                men.add(new Man(a, b));
                return men.size() - 1;
            case "stock":
                if (out(a, 0, 5) || out(b, 1, 99) || out(c, 1, 99)) {
                    return INVALID;
                }
                if (sea) {
                    return NOT_POSSIBLE;
                }
                if (items[a][0] + b > 500) {
                    return LIMIT;
                }
                items[a][0] += b;
                items[a][2] += b;
                items[a][1] = c + (c * settings[1]) / 100;
                spent += b * c;
                take(b * c);
                return items[a][1];
            case "sell":
                int reason = why(a, b, c);
                if (reason != 0) {
                    return reason == INVALID ? INVALID : NOT_POSSIBLE;
                }
                charge(a, 0, c * items[b][1]);
                items[b][0] -= c;
                items[b][3] += c;
                items[b][4] += c * items[b][1];
                return c * items[b][1];
            case "advance":
                if (noMan(a) || out(b, 1, 999)) {
                    return INVALID;
                }
                if (sea || men.get(a).place == 2 || men.get(a).running < b) {
                    return NOT_POSSIBLE;
                }
                charge(a, 2, b);
                take(b);
                return cash;
            case "fine":
                if (noMan(a) || out(b, 1, 999)) {
                    return INVALID;
                }
                if (men.get(a).place == 2 || men.get(a).running - b < -4000) {
                    return NOT_POSSIBLE;
                }
                charge(a, 1, b);
                return 5000 + men.get(a).running;
            case "fineWatch": return fineWatch(a, b);
            default: return shipChange(name, a, b);
        }
    }

    private int fineWatch(int watch, int coins) {
        if (out(watch, 0, 1) || out(coins, 1, 999)) {
            return INVALID;
        }
        List<Integer> who = new ArrayList<>();
        for (int k = 0; k < men.size(); k++) {
            if (men.get(k).watch == watch && men.get(k).place != 2) {
                who.add(k);
            }
        }
        if (who.isEmpty()) {
            return NOT_POSSIBLE;
        }
        // The coins are dealt out one by one, which gives the lowest numbers what is left over.
        int[] parts = new int[who.size()];
        for (int k = 0; k < coins; k++) {
            parts[k % parts.length]++;
        }
        for (int k = 0; k < parts.length; k++) {
            if (men.get(who.get(k)).running - parts[k] < -4000) {
                return NOT_POSSIBLE;
            }
        }
        for (int k = 0; k < parts.length; k++) {
            charge(who.get(k), 1, parts[k]);
        }
        return parts.length;
    }

    private int shipChange(String name, int a, int b) {
        switch (name) {
            case "leave":
                if (out(a, 0, 1)) {
                    return INVALID;
                }
                if (sea || men.stream().anyMatch(m -> m.place == 1)) {
                    return NOT_POSSIBLE;
                }
                int go = 0;
                for (Man m : men) {
                    if (m.watch == a && m.place == 0) {
                        m.place = 1;
                        go++;
                    }
                }
                return go == 0 ? NOT_POSSIBLE : go;
            case "back":
                if (noMan(a) || out(b, 0, 99)) {
                    return INVALID;
                }
                if (men.get(a).place != 1 || men.get(a).running - b * settings[2] < -4000) {
                    return NOT_POSSIBLE;
                }
                men.get(a).place = 0;
                charge(a, 1, b * settings[2]);
                return b * settings[2];
            case "sail":
                if (sea) {
                    return NOT_POSSIBLE;
                }
                int left = 0;
                for (Man m : men) {
                    if (m.place == 1) {
                        forfeit += m.running;
                        m.away();
                        left++;
                    }
                }
                sea = true;
                return left;
            case "port":
                if (!sea) {
                    return NOT_POSSIBLE;
                }
                sea = false;
                return ++ports;
            case "days":
                if (out(a, 1, 99)) {
                    return INVALID;
                }
                if (voyageDays + a > 999) {
                    return LIMIT;
                }
                for (int k = 0; k < a; k++) {
                    voyageDays++;
                    men.stream().filter(m -> m.place != 2).forEach(m -> m.day(sea));
                }
                return voyageDays;
            case "dismiss":
                if (noMan(a)) {
                    return INVALID;
                }
                if (sea || men.get(a).place == 2 || men.get(a).running < 0) {
                    return NOT_POSSIBLE;
                }
                int coins = men.get(a).running;
                pay(a);
                men.get(a).away();
                return coins;
            case "payOff":
                if (sea || voyageDays == 0) {
                    return NOT_POSSIBLE;
                }
                return payAll();
            case "set":
                if (out(a, 0, 2) || out(b, 0, new int[] {500, 200, 50}[a])) {
                    return INVALID;
                }
                int was = settings[a];
                settings[a] = b;
                return was;
            default: throw new IllegalArgumentException(name);
        }
    }

    private int payAll() {
        int before = paid;
        for (int k = 0; k < men.size(); k++) {
            if (men.get(k).place != 2) {
                pay(k);
                men.get(k).begin();
            }
        }
        voyage++;
        voyageDays = 0;
        return paid - before;
    }

    private int sailor(int a, int what) {
        if (noMan(a) || out(what, 0, 12)) {
            return INVALID;
        }
        Man m = men.get(a);
        int[] all = {m.rank, m.watch, m.place, 10000 + m.running, 10000 + m.toldBySums(), m.sea, m.harbour, m.earned(),
            m.charges[0], m.charges[1], m.charges[2], -m.carried, m.paid};
        return all[what];
    }

    private int why(int a, int item, int many) {
        if (noMan(a) || out(item, 0, 5) || out(many, 1, 99)) {
            return INVALID;
        }
        if (men.get(a).place != 0) {
            return 1;
        }
        if (items[item][0] < many) {
            return 2;
        }
        return men.get(a).running - many * items[item][1] < -settings[0] ? 3 : 0;
    }

    private int most(int a, int item) {
        if (noMan(a) || out(item, 0, 5)) {
            return INVALID;
        }
        int many = 0;
        for (int k = 1; k <= 99; k++) {
            if (why(a, item, k) == 0) {
                many = k;
            }
        }
        return many;
    }

    private int clearIn(int a) {
        if (noMan(a)) {
            return INVALID;
        }
        if (men.get(a).place == 2) {
            return NOT_POSSIBLE;
        }
        Man m = new Man(men.get(a));
        int many = 0;
        while (m.running < 0 && many <= 400) {
            m.day(sea);
            many++;
        }
        return many > 400 ? NOT_FOUND : many;
    }

    private int ifPaidOff(int what) {
        if (out(what, 0, 3)) {
            return INVALID;
        }
        Model then = copy();
        then.payAll();
        int debts = 0;
        int who = 0;
        for (int k = 0; k < men.size(); k++) {
            debts -= then.men.get(k).carried;
            if (then.men.get(k).carried != 0) {
                who += 1 << k;
            }
        }
        return new int[] {then.paid - paid, then.drawn - drawn, debts, who}[what];
    }

    private int poorest(int place) {
        if (place < 0) {
            return INVALID;
        }
        List<Integer> who = new ArrayList<>();
        for (int k = 0; k < men.size(); k++) {
            if (men.get(k).place != 2) {
                who.add(k);
            }
        }
        who.sort(Comparator.comparingInt(k -> men.get(k).running));
        return place >= who.size() ? NOT_FOUND : who.get(place);
    }

    private int share() {
        int earned = 0;
        int charged = 0;
        for (Man m : men) {
            if (m.place != 2) {
                earned += m.earned();
                charged += m.charges[0] + m.charges[1] + m.charges[2];
            }
        }
        return earned == 0 ? NOT_FOUND : Float.floatToRawIntBits((float) charged / (float) earned);
    }

    private int set(int place) {
        int bits = 0;
        for (int k = 0; k < men.size(); k++) {
            bits |= men.get(k).place == place ? 1 << k : 0;
        }
        return bits;
    }

    private int count(int what) {
        if (out(what, 0, 22) || what == 19) {
            return INVALID;
        }
        int[] all = {voyage, sea ? 1 : 0, voyageDays, ports, men.size(), set(0), set(1), set(2), cash, drawn, spent,
            advanced, paid, sold, fines, 100000 + forfeit, Math.min(8, entries.size()), history.size(), text.length(), 0,
            settings[0], settings[1], settings[2]};
        return all[what];
    }

    private int fault(int what) {
        if (out(what, 0, 2)) {
            return INVALID;
        }
        int[] result = copyWithText().run();
        return result[1] == 0 ? NOT_FOUND : new int[] {result[2], result[1], result[3]}[what];
    }

    private Model copyWithText() {
        Model m = copy();
        m.text = text;
        return m;
    }

    /** Tells whether a text would have no fault now. */
    boolean plays(String orders) {
        Model m = copy();
        m.text = orders;
        return m.run()[1] == 0;
    }

    /** How many orders were done, and the reason, position and cause of the fault. */
    private int[] run() {
        int done = 0;
        int position = 0;
        while (position < text.length()) {
            String rest = text.substring(position);
            Matcher order = ORDER.matcher(rest);
            if (!order.lookingAt()) {
                return new int[] {done, 1, position, longestBeginning(rest)};
            }
            int answer = carryOut(order.group());
            if (answer < -1000000) {
                return new int[] {done, 2, position, answer};
            }
            done++;
            position += order.end();
        }
        return new int[] {done, 0, 0, 0};
    }

    private static int longestBeginning(String rest) {
        int longest = 0;
        for (int length = 1; length <= rest.length(); length++) {
            Matcher m = ORDER.matcher(rest.substring(0, length));
            if (!m.matches() && m.hitEnd()) {
                longest = length;
            }
        }
        return longest;
    }

    private int carryOut(String order) {
        String[] parts = order.substring(1, order.length() - 1).split(",");
        int[] n = new int[3];
        for (int k = 0; k < parts.length; k++) {
            n[k] = parts[k].isEmpty() ? 0 : Integer.parseInt(parts[k]);
        }
        String letters = "hbvafdlrope";
        String[] calls = {"sign", "stock", "sell", "advance", "fine", "days", "leave", "back", "sail", "port", "payOff"};
        return change(calls[letters.indexOf(order.charAt(0))], n[0], n[1], n[2]);
    }
}
