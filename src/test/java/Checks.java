/** Counts what is as due; each test class ends with {@link #close}. */
final class Checks {
    static final String SMALL = "hill 10;sort 2 5 4;sort 3 9 6;sort 1 1 1;bend 0 1;bend 1 1;bend 2 0;"
            + "pilgrim 20;pilgrim 5;has 0 0 1;has 1 1 1;has 1 2 2;heap 0 1 2";

    private static int passed;
    private static int failed;

    private Checks() {
    }

    static void is(String what, int got, int due) {
        if (got == due) {
            passed++;
        } else {
            failed++;
            System.out.println(what + " answered " + got + ", due is " + due);
        }
    }

    static void holds(String what, boolean is) {
        is(what, is ? 1 : 0, 1);
    }

    /** The tape is this text then. */
    static void tell(HillBends x, String text) {
        x.end(0);
        for (int from = 0; from < text.length(); from += 20) {
            int[] numbers = new int[5];
            for (int i = 0; i < 20; i++) {
                int sign = from + i < text.length() ? text.charAt(from + i) & 255 : 0;
                numbers[i / 4] = numbers[i / 4] << 8 | sign;
            }
            x.feed(numbers[0], numbers[1], numbers[2], numbers[3], numbers[4]);
        }
        x.end(text.length());
    }

    static int hill(HillBends x, String text) {
        tell(x, text);
        return x.hill();
    }

    static int rule(HillBends x, String text) {
        tell(x, text);
        return x.rule();
    }

    static HillBends on(String text) {
        HillBends x = new HillBends();
        holds("a hill: " + text, hill(x, text) >= 0);
        return x;
    }

    static HillBends onSmall() {
        return on(SMALL);
    }

    /** What is answered to a text with a fault. */
    static int fault(int place, int kind) {
        return -2 - (1 + 8 * place + kind);
    }

    static void close(String name) {
        System.out.println(name + ": " + passed + " passed, " + failed + " failed");
        if (failed != 0) {
            System.exit(1);
        }
    }
}
