/** Counts answers that are not as due, and ends a test with them. */
final class Due {
    static final int INVALID = -1000001;
    static final int NOT_POSSIBLE = -1000002;
    static final int LIMIT = -1000003;
    static final int NOT_FOUND = -1000004;

    private static int asked = 0;
    private static int wrong = 0;

    private Due() {
    }

    static void is(String call, long got, long want) {
        asked++;
        if (got != want) {
            wrong++;
            if (wrong <= 50) {
                System.out.println(call + " answered " + got + ", due is " + want);
            }
        }
    }

    static void end(String test) {
        System.out.println(test + ": " + asked + " answers, " + wrong + " not as due");
        if (wrong != 0) {
            System.exit(1);
        }
    }

    /** Types orders; the text stays within its limit in all tests that use this. */
    static void write(PurserLedgers x, String orders) {
        x.clearText();
        for (int k = 0; k < orders.length(); k++) {
            is("type " + orders.charAt(k), x.type(orders.charAt(k)), k + 1);
        }
    }

    /** All that can be asked, to see that something has changed nothing. */
    static String told(PurserLedgers x) {
        StringBuilder all = new StringBuilder();
        for (int what = 0; what <= 22; what++) {
            all.append("count ").append(what).append(' ').append(x.count(what)).append('\n');
        }
        for (int number = 0; number < 16; number++) {
            for (int what = 0; what <= 12; what++) {
                all.append("sailor ").append(number).append(' ').append(what).append(' ')
                        .append(x.sailor(number, what)).append('\n');
            }
        }
        for (int number = 0; number < 6; number++) {
            for (int what = 0; what <= 4; what++) {
                all.append("item ").append(number).append(' ').append(what).append(' ')
                        .append(x.item(number, what)).append('\n');
            }
        }
        for (int ago = 0; ago <= 8; ago++) {
            for (int what = 0; what <= 2; what++) {
                all.append("book ").append(ago).append(' ').append(what).append(' ')
                        .append(x.book(ago, what)).append('\n');
            }
        }
        for (int place = 0; place <= 16; place++) {
            all.append("poorest ").append(place).append(' ').append(x.poorest(place)).append('\n');
        }
        for (int what = 0; what <= 3; what++) {
            all.append("ifPaidOff ").append(what).append(' ').append(x.ifPaidOff(what)).append('\n');
        }
        all.append("share ").append(x.share()).append('\n');
        return all.toString();
    }

    static void same(String what, String got, String want) {
        asked++;
        if (!got.equals(want)) {
            wrong++;
            System.out.println(what + ": something else is told than before");
            String[] now = got.split("\n");
            String[] before = want.split("\n");
            for (int k = 0; k < now.length && k < before.length; k++) {
                if (!now[k].equals(before[k])) {
                    System.out.println("  " + now[k] + ", before: " + before[k]);
                }
            }
        }
    }
}
