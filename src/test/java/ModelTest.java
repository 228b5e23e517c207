/** Runs of many calls: the class answers as the model does. Every run is the same each time. */
public final class ModelTest {
    private static final int RUNS = 4000;
    private static final int SIGN = 0;
    private static final int BACK = 7;
    private static final int SAIL = 8;
    private static final int DISMISS = 11;
    private static final int SAILOR = 14;
    private static final int ITEM = 15;
    private static final int BOOK = 16;
    private static final int MOST = 18;
    private static final int CLEAR_IN = 19;
    private static final int IF_PAID_OFF = 20;
    private static final int POOREST = 21;
    private static final int SHARE = 22;
    private static final int COUNT = 23;
    private static final int TYPE = 25;
    private static final int CLEAR_TEXT = 26;
    private static final int FAULT = Calls.FAULT;
    private static final int PLAY = Calls.PLAY;

    private static long seed;
    private static int[] answered = new int[Calls.NAMES.length];
    private static int[] refused = new int[Calls.NAMES.length];

    public static void main(String[] args) {
        for (int run = 0; run < RUNS; run++) {
            seed = run * 7919L + 17;
            oneRun(run);
        }
        for (int which = 0; which < answered.length; which++) {
            Due.is(Calls.NAMES[which] + " was often answered", answered[which] >= 300 ? 1 : 0, 1);
        }
        if (args.length > 0) {
            for (int which = 0; which < answered.length; which++) {
                System.out.println(Calls.NAMES[which] + ": answered " + answered[which] + ", refused " + refused[which]);
            }
        }
        Due.end("ModelTest");
    }

    private static int below(int bound) {
        seed = seed * 6364136223846793005L + 1442695040888963407L;
        return (int) ((seed >>> 33) % bound);
    }

    private static void oneRun(int run) {
        Asked x = new Asked();
        Model model = new Model();
        int crew = 1 + below(16);
        // In some runs everything is asked at the end.
        int kept = run % 3 == 0 ? 300 : 0;
        String orders = "";
        int typed = 0;
        while (x.callsLeft() > kept) {
            int which;
            int a;
            int b = second();
            int c = below(20) == 0 ? edge() : 1 + below(run % 3 == 0 ? 99 : 8);
            if (typed < orders.length()) {
                which = TYPE;
                a = orders.charAt(typed);
                typed++;
            } else if (Asked.CALLS_AT_MOST - x.callsLeft() < crew) {
                which = SIGN;
                a = below(4);
                b = below(2);
            } else {
                which = pick(run);
                a = first(which, crew, run);
                int onLeave = model.call(COUNT, 6, 0, 0);
                if (onLeave != 0 && below(8) > 0 && (which == BACK || which == SAIL || which == DISMISS && run % 3 > 0)) {
                    which = BACK;
                    a = Integer.numberOfTrailingZeros(onLeave);
                }
                if (which == PLAY && below(3) > 0 || which == CLEAR_TEXT) {
                    orders = orders(crew, model);
                    typed = 0;
                    which = CLEAR_TEXT;
                }
                b = b(which, b, run);
            }
            compare(run, x, model, which, a, b, c);
            if (which == TYPE && typed == orders.length()) {
                for (int what = 0; what < 3; what++) {
                    compare(run, x, model, FAULT, what, 0, 0);
                }
                answered[PLAY] += compare(run, x, model, PLAY, 0, 0, 0) > 0 ? 1 : 0;
            } else if (Calls.isChange(which)) {
                askSomething(run, x, model, crew);
            }
        }
        askAll(run, x, model);
    }

    private static int compare(int run, Asked x, Model model, int which, int a, int b, int c) {
        if (x.callsLeft() <= 0) {
            return 0;
        }
        String told = "run " + run + ", call " + (Asked.CALLS_AT_MOST - x.callsLeft()) + ": " + Calls.NAMES[which]
                + "(" + a + ", " + b + ", " + c + ")";
        int want = model.call(which, a, b, c);
        Due.is(told, x.ask(which, a, b, c), want);
        if (want < 0) {
            refused[which]++;
        } else if (which != PLAY) {
            answered[which]++;
        }
        return want;
    }

    /** Two questions about what a change has mostly to do with. */
    private static void askSomething(int run, Asked x, Model model, int crew) {
        int[] often = {SAILOR, SAILOR, SAILOR, ITEM, BOOK, MOST, CLEAR_IN, IF_PAID_OFF, POOREST, SHARE, COUNT, COUNT, COUNT};
        for (int k = 0; k < 2; k++) {
            int which = often[below(often.length)];
            int[] firsts = {crew, 6, 3, 20, crew, crew, 4, crew, 1, 23};
            int[] seconds = {13, 5, 3, 6, 6, 1, 1, 1, 1, 1};
            compare(run, x, model, which, below(firsts[which - SAILOR]), below(seconds[which - SAILOR]), 1 + below(9));
        }
    }

    /** Everything that can be asked, as long as there are calls left. */
    private static void askAll(int run, Asked x, Model model) {
        int sailors = model.call(COUNT, 4, 0, 0);
        int[][] ranges = {{COUNT, 23, 1}, {BOOK, 8, 3}, {IF_PAID_OFF, 4, 1}, {SHARE, 1, 1}, {POOREST, sailors + 1, 1},
            {CLEAR_IN, sailors, 1}, {SAILOR, sailors, 13}, {ITEM, 6, 5}, {MOST, sailors, 6}};
        for (int[] range : ranges) {
            for (int a = 0; a < range[1]; a++) {
                for (int b = 0; b < range[2]; b++) {
                    compare(run, x, model, range[0], a, b, 0);
                }
            }
        }
    }

    private static int pick(int run) {
        int[] often = {0, 1, 1, 2, 2, 2, 3, 4, 5, 6, 7, 7, 8, 9, 9, 10, 10, 11, 12, 13, 14, 15, 16, 17, 18, 19, 20, 21,
            22, 23, 24, 25, 26, 27, 28};
        int which = often[below(often.length)];
        // In some runs nearly nobody is sent away, and the ship lies in port for long.
        if (run % 2 == 0 && (which == DISMISS || which == SAIL) && below(4) > 0) {
            return 2;
        }
        return which;
    }

    private static int edge() {
        int[] edges = {-1, 0, 1, 2, 3, 4, 5, 6, 15, 16, 50, 51, 99, 100, 200, 201, 500, 501, 999, 1000, -1000000, 1000000};
        return edges[below(edges.length)];
    }

    private static int second() {
        return below(15) == 0 ? edge() : below(6);
    }

    private static int first(int which, int crew, int run) {
        if (below(40) == 0) {
            return edge();
        }
        switch (Calls.NAMES[which]) {
            case "sign": return below(4);
            case "stock": return below(2 + run % 5);
            case "item": return below(6);
            case "fineWatch":
            case "leave": return below(2);
            case "days": return below(3) == 0 ? 1 + below(99) : 1 + below(14);
            case "set":
            case "fault": return below(3);
            case "book": return below(10);
            case "type": return below(2) == 0 ? 30 + below(4) : 124 + below(5);
            case "ifPaidOff": return below(4);
            case "count": return below(24);
            default: return below(crew + 1);
        }
    }

    private static int b(int which, int b, int run) {
        if (below(30) == 0) {
            return edge();
        }
        switch (Calls.NAMES[which]) {
            case "sign": return below(2);
            case "stock": return 1 + below(run % 4 == 1 ? 99 : 20);
            case "advance": return 1 + below(30);
            case "fine": return 1 + below(run % 5 == 2 ? 999 : run % 5 == 4 ? 40 : 4);
            case "fineWatch": return 1 + below(run % 5 == 3 ? 999 : run % 5 == 4 ? 40 : 9);
            case "back": return below(run % 4 == 0 ? 100 : 8);
            case "set": return below(2) == 0 ? below(520) : below(60);
            case "sailor": return below(13);
            case "sell":
            case "why":
            case "most": return below(2 + run % 5);
            case "book": return below(3);
            default: return b;
        }
    }

    /** Mostly orders that are possible one after the other, so that the later ones are reached. */
    private static String orders(int crew, Model model) {
        StringBuilder all = new StringBuilder();
        int wanted = below(4) == 0 ? 60 : 10 + below(30);
        for (int k = 0; k < 200 && all.length() < wanted; k++) {
            String order = order(crew);
            if (model.plays(all + order) || below(60) == 0) {
                all.append(order);
            }
        }
        all.setLength(Math.min(all.length(), wanted));
        if (below(4) > 0) {
            all.setLength(all.lastIndexOf(";") + 1);
        }
        if (below(6) == 0 && all.length() > 0) {
            String signs = "hbvafdlrope;,0123456789 xX/:~";
            all.setCharAt(below(all.length()), signs.charAt(below(signs.length())));
        }
        return all.toString();
    }

    private static String order(int crew) {
        String zero = below(5) == 0 ? "0" : "";
        int who = below(12) == 0 ? below(17) : below(crew);
        int item = below(30) == 0 ? 6 : below(3);
        switch (below(15)) {
            case 0: return "h" + zero + below(4) + "," + below(2) + ";";
            case 1: return "b" + item + "," + zero + (1 + below(30)) + "," + (1 + below(20)) + ";";
            case 2:
            case 3: return "v" + who + "," + item + "," + (1 + below(4)) + ";";
            case 4: return "a" + who + "," + (1 + below(9)) + ";";
            case 5: return "f" + who + "," + below(20) + ";";
            case 6:
            case 7: return "d" + zero + below(15) + ";";
            case 8: return below(3) > 0 ? "d3;" : "l" + below(2) + ";";
            case 9: return "r" + who + "," + below(5) + ";";
            case 10: return "o;";
            case 11: return "p;";
            case 12: return "e;";
            case 13: return "o;p;";
            default: return "d1;";
        }
    }
}
