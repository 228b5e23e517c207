/** Any arguments in any state: every call is answered, and an error changes nothing. */
public final class WildArgumentsTest {
    private static final int[] WILD = {Integer.MIN_VALUE, Integer.MIN_VALUE + 1, -1000001, -65536, -100, -1, 0, 1, 2, 3,
        5, 6, 7, 8, 15, 16, 17, 31, 32, 60, 61, 99, 100, 126, 127, 255, 999, 1000, 65536, 1 << 30, Integer.MAX_VALUE - 1,
        Integer.MAX_VALUE};

    public static void main(String[] args) {
        for (int state = 0; state < 5; state++) {
            for (int which = 0; which < Model.NAMES.length; which++) {
                askAll(state, which);
            }
        }
        Due.end("WildArgumentsTest");
    }

    private static PurserLedgers inState(int state) {
        PurserLedgers x = new PurserLedgers();
        if (state > 0) {
            x.sign(0, 0);
            x.sign(3, 1);
            x.stock(0, 9, 9);
            x.days(99);
        }
        if (state > 1) {
            x.leave(1);
            x.type('d');
        }
        if (state > 2) {
            x.sail();
            Due.write(x, "d1;x");
        }
        if (state > 3) {
            x.port();
            for (int k = 0; k < 14; k++) {
                x.sign(k % 4, k % 2);
            }
            for (int k = 0; k < 56; k++) {
                x.type('1');
            }
        }
        return x;
    }

    private static void askAll(int state, int which) {
        PurserLedgers x = inState(state);
        String before = Due.told(x);
        boolean hasSecond = "sign stock sell advance fine fineWatch back set sailor item book why most".contains(
                Model.NAMES[which]);
        for (int a : WILD) {
            for (int b : hasSecond ? WILD : new int[] {0}) {
                for (int c : new int[] {Integer.MIN_VALUE, -1, 0, 1, 99, 100, Integer.MAX_VALUE}) {
                    int answer = Model.ask(x, which, a, b, c);
                    String told = "state " + state + " " + Model.NAMES[which] + "(" + a + ", " + b + ", " + c + ")";
                    Due.is(told + " is an error code or not below 0", answer >= 0 || isError(answer) ? 1 : 0, 1);
                    if (answer >= 0 && (which <= 13 || which >= 24)) {
                        x = inState(state);
                    } else if (a == WILD[0] || a == 0 || a == Integer.MAX_VALUE) {
                        Due.same(told, Due.told(x), before);
                    }
                }
            }
        }
    }

    private static boolean isError(int answer) {
        return answer >= Due.NOT_FOUND && answer <= Due.INVALID;
    }
}
