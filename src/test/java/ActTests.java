/** Promises 7 to 17: what is there, acts, and acts undone. */
public final class ActTests {
    private static final int NONE = HillBends.NONE;

    private ActTests() {
    }

    public static void main(String[] args) {
        promise7Pilgrim();
        promise8Bend();
        promise9Sort();
        promise10Night();
        nightsByRules();
        wordsOfBends();
        promise11Climb();
        promise12Down();
        promise13Take();
        promise14Buy();
        promise15Sell();
        promise16Hand();
        promise17Undo();
        heapsAreFullAt99();
        Checks.close("ActTests");
    }

    private static void row(String what, int[] got, int... due) {
        Checks.is(what + " length", got.length, due.length);
        for (int i = 0; i < due.length; i++) {
            Checks.is(what + " " + i, got[i], due[i]);
        }
    }

    private static int[] pilgrim(HillBends x, int pilgrim) {
        int[] got = new int[10];
        for (int what = 0; what < 10; what++) {
            got[what] = x.pilgrim(pilgrim, what);
        }
        return got;
    }

    private static int[] bend(HillBends x, int bend) {
        int[] got = new int[8];
        for (int what = 0; what < 8; what++) {
            got[what] = x.bend(bend, what);
        }
        return got;
    }

    private static void promise7Pilgrim() {
        HillBends x = Checks.onSmall();
        row("pilgrim 0", pilgrim(x, 0), 0, 20, 0, 0, 2, 1, 0, 0, 0, 0);
        row("pilgrim 1", pilgrim(x, 1), 0, 5, 0, 0, 5, 0, 1, 2, 0, 0);
        for (int pilgrim : new int[] {-1, 2, 4, Integer.MAX_VALUE, Integer.MIN_VALUE}) {
            Checks.is("no pilgrim " + pilgrim, x.pilgrim(pilgrim, 0), NONE);
        }
        for (int what : new int[] {-1, 10, Integer.MAX_VALUE, Integer.MIN_VALUE}) {
            Checks.is("not of a pilgrim: " + what, x.pilgrim(0, what), NONE);
        }
    }

    private static void promise8Bend() {
        HillBends x = Checks.onSmall();
        row("bend 0", bend(x, 0), 0, 1, 0, 0, 2, 0, 0, 0);
        row("bend 1", bend(x, 1), 1, 1, 1, 0, 0, 0, 0, 0);
        row("bend 2", bend(x, 2), 2, 0, 2, 0, 0, 0, 0, 0);
        x.night();
        Checks.is("asks for its second", x.bend(0, 2), 1);
        Checks.is("its first stays", x.bend(0, 0), 0);
        for (int bend : new int[] {-1, 3, 8, Integer.MAX_VALUE, Integer.MIN_VALUE}) {
            Checks.is("no bend " + bend, x.bend(bend, 0), NONE);
        }
        for (int what : new int[] {-1, 8, Integer.MAX_VALUE, Integer.MIN_VALUE}) {
            Checks.is("not of a bend: " + what, x.bend(0, what), NONE);
        }
    }

    private static void promise9Sort() {
        HillBends x = Checks.onSmall();
        int[] due = {2, 5, 4, 3, 9, 6, 1, 1, 1};
        for (int i = 0; i < 9; i++) {
            Checks.is("sort " + i / 3 + " " + i % 3, x.sort(i / 3, i % 3), due[i]);
        }
        Checks.is("no sort", x.sort(3, 0), NONE);
        Checks.is("no sort", x.sort(-1, 0), NONE);
        Checks.is("not of a sort", x.sort(0, 3), NONE);
        Checks.is("not of a sort", x.sort(0, -1), NONE);
    }

    private static void promise10Night() {
        HillBends x = Checks.onSmall();
        Checks.is("the other one, bend 1 alike", x.night(), 0b101);
        Checks.is("these ask for their second", x.count(7), 0b101);
        Checks.is("night 1", x.count(6), 1);
        Checks.is("and back", x.night(), 0b101);
        Checks.is("first again", x.count(7), 0);
        for (int n = 2; n < 300; n++) {
            Checks.is("night after " + n, x.night(), 0b101);
        }
        HillBends y = Checks.on("hill 1");
        for (int n = 0; n < 400; n++) {
            y.night();
        }
        Checks.is("nights of a bare hill", y.count(6), 400);
        y.image(0);
        Checks.is("a hill of no bends turns nothing", y.night(), 0);
        HillBends z = new HillBends();
        Checks.is("without a hill", z.night(), NONE);
        Checks.is("no night", z.count(6), 0);
    }

    private static void nightsByRules() {
        HillBends x = Checks.onSmall();
        Checks.rule(x, "ask ones - 1");
        Checks.rule(x, "ask 0 if bend = 0; ask 1 if bend = 2");
        Checks.rule(x, "ask 1 if night % 2 = 1; ask 0 - 1");
        x.force(0);
        Checks.is("no ones anywhere", x.night(), 0b101);
        x.force(1);
        Checks.is("only bend 2 turns back", x.night(), 0b100);
        Checks.is("it asks for its first", x.bend(2, 2), 2);
        Checks.is("nothing turns", x.night(), 0);
        x.force(2);
        Checks.is("night 3 is odd", x.night(), 0b001);
        Checks.is("night 4 is even", x.night(), 0b101);
        x.force(NONE);
        Checks.is("by none", x.night(), 0b101);
    }

    /** By "ask 1 if" a fact the bends for which it holds ask for their first. */
    private static void fact(String what, HillBends x, String fact, int due) {
        Checks.is("rule of " + fact, Checks.rule(x, "ask 1 if " + fact) >= 0 ? 1 : 0, 1);
        x.force(x.count(4) - 1);
        x.night();
        Checks.is(what + ": " + fact, x.count(7) ^ 7, due);
        x.undo();
    }

    /** Bends 0 to 2 have heaps, one pilgrim is above bend 0, one is at the foot; it is night 3. */
    private static HillBends onWords() {
        HillBends x = Checks.on("hill 20;sort 1 1 1;sort 1 1 1;sort 1 1 1;bend 0 1;bend 1 2;bend 2 0;pilgrim 9;pilgrim 9;"
                + "has 0 0 2;has 0 1 2;heap 0 0 3;heap 0 1 4;heap 0 2 5;heap 1 1 6;heap 2 0 7");
        x.climb(0);
        x.night();
        x.night();
        x.night();
        return x;
    }

    private static void wordsOfBends() {
        HillBends x = onWords();
        fact("bend", x, "bend = 1", 0b010);
        fact("first", x, "first = 2", 0b100);
        fact("second", x, "second = 2", 0b010);
        fact("asks", x, "asks = 1", 0b001);
        fact("night at its begin", x, "night = 3", 0b111);
        fact("ones", x, "ones = 4", 0b001);
        x = onWords();
        fact("ones", x, "ones = 6", 0b010);
        fact("twos", x, "twos = 4", 0b001);
        fact("twos", x, "twos = 7", 0b100);
        fact("heap", x, "heap = 13 or heap = 7", 0b101);
        fact("passed", x, "passed = 1", 0b001);
        fact("here", x, "here = 1", 0b011);
        signsOfFacts();
    }

    private static void signsOfFacts() {
        HillBends x = onWords();
        fact("less", x, "bend < 1", 0b001);
        fact("at most", x, "bend <= 1", 0b011);
        fact("alike", x, "bend = 1", 0b010);
        fact("at least", x, "bend >= 1", 0b110);
        fact("more", x, "bend > 1", 0b100);
        fact("not", x, "not bend = 1 and bend < 2", 0b001);
        x = onWords();
        fact("and ahead of or", x, "bend = 0 or bend = 1 and bend = 2", 0b001);
        fact("brackets", x, "[bend = 0 or bend = 1] and not [bend = 1 or bend = 2]", 0b001);
        fact("by 0", x, "1 / bend + 7 % bend = 1 - 0 * bend", 0b100 | 0b010);
        fact("from the left", x, "7 - 2 - 1 = 4 and 7 * 3 / 2 = 10 and 2 + 3 * 4 = 14", 0b111);
        fact("below 0 towards 0", x, "0 - 7 / 2 = 0 - 3", 0b111);
        fact("round in 64 bits", x, "99999*99999*99999*10000 < 0", 0b111);
        x = onWords();
        fact("of below 0 towards 0", x, "99999*99999*99999*10000/99999/99999/99999 = 0 - 8447", 0b111);
        fact("its rest is below 0", x, "99999*99999*99999*10000 % 7 = 0 - 5", 0b111);
        fact("no clause: 0", x, "0 = 1", 0);
        Checks.is("the first that holds", Checks.rule(x, "ask 1 if bend = 0; ask 0 if bend < 2; ask bend"), 3);
        x.force(3);
        x.night();
        Checks.is("it does", x.count(7), 0b010);
    }

    private static void promise11Climb() {
        HillBends x = Checks.onSmall();
        Checks.is("asked for what they have not", x.climb(1), NONE);
        Checks.is("up", x.climb(0), 1);
        row("pilgrim 0", pilgrim(x, 0), 1, 20, 1, 0, 0, 0, 0, 0, 0, 0);
        row("bend 0", bend(x, 0), 0, 1, 0, 1, 2, 0, 0, 0);
        Checks.is("nothing to leave", x.climb(0), NONE);
        x.night();
        Checks.is("by the second", x.climb(1), 1);
        Checks.is("lying there", x.bend(0, 4), 3);
        Checks.is("no pilgrim", x.climb(2), NONE);
        Checks.is("no pilgrim", x.climb(-1), NONE);
        Checks.is("acts", x.count(11), 3);
        HillBends y = Checks.on("hill 9;sort 1 1 1;bend 0 0;pilgrim 0;has 0 0 2");
        Checks.is("to the top", y.climb(0), 1);
        Checks.is("who is there", y.count(8), 1);
        Checks.is("not beyond", y.climb(0), NONE);
        Checks.is("no bends", Checks.on("hill 9;sort 1 1 1;pilgrim 0;has 0 0 2").climb(0), NONE);
    }

    private static void promise12Down() {
        HillBends x = Checks.onSmall();
        Checks.is("from the foot", x.down(0), NONE);
        x.climb(0);
        Checks.is("down", x.down(0), 0);
        Checks.is("left stays", x.pilgrim(0, 2), 1);
        Checks.is("what was left stays", x.bend(0, 3), 1);
        Checks.is("once", x.down(0), NONE);
        Checks.is("no pilgrim", x.down(2), NONE);
        Checks.is("no pilgrim", x.down(-1), NONE);
        Checks.is("acts", x.count(11), 2);
    }

    private static void promise13Take() {
        HillBends x = Checks.onSmall();
        Checks.is("at the foot", x.take(0, 1), NONE);
        x.climb(0);
        Checks.is("none of it there", x.take(0, 2), NONE);
        Checks.is("no sort", x.take(0, 3), NONE);
        Checks.is("no sort", x.take(0, -1), NONE);
        Checks.is("no pilgrim", x.take(2, 1), NONE);
        Checks.is("taken", x.take(0, 1), 1);
        row("pilgrim 0", pilgrim(x, 0), 1, 20, 1, 1, 3, 0, 1, 0, 0, 0);
        Checks.is("one is gone", x.bend(0, 4), 1);
        Checks.is("not more than left", x.take(0, 1), NONE);
        HillBends y = Checks.on("hill 5;sort 2 1 1;sort 4 1 1;bend 0 0;pilgrim 0;has 0 0 2;heap 0 1 1");
        y.climb(0);
        Checks.is("too heavy", y.take(0, 1), NONE);
        Checks.is("not too heavy", y.take(0, 0), 2);
        HillBends z = Checks.on("hill 40;sort 1 1 1;sort 1 1 1;bend 0 0;pilgrim 0;has 0 0 1;has 0 1 4;has 0 1 4;has 0 1 1;heap 0 1 1");
        z.climb(0);
        Checks.is("a tenth", z.take(0, 1), NONE);
    }

    private static void promise14Buy() {
        HillBends x = Checks.onSmall();
        Checks.is("bought", x.buy(0, 0), 16);
        Checks.is("had", x.pilgrim(0, 5), 2);
        Checks.is("bought", x.buy(0, 1), 10);
        Checks.is("weight", x.pilgrim(0, 4), 7);
        Checks.is("to the brim", x.buy(0, 1), 4);
        Checks.is("too heavy", x.buy(0, 2), NONE);
        Checks.is("too dear", x.buy(1, 1), NONE);
        Checks.is("for all money", Checks.on("hill 9;sort 1 1 7;pilgrim 7").buy(0, 0), 0);
        Checks.is("no sort", x.buy(0, 3), NONE);
        Checks.is("no sort", x.buy(0, -1), NONE);
        Checks.is("no pilgrim", x.buy(2, 0), NONE);
        x.climb(0);
        Checks.is("not at the foot", x.buy(0, 2), NONE);
        HillBends y = Checks.on("hill 40;sort 1 1 1;pilgrim 99");
        for (int n = 1; n <= 9; n++) {
            Checks.is("buy " + n, y.buy(0, 0), 99 - n);
        }
        Checks.is("a tenth", y.buy(0, 0), NONE);
        Checks.is("acts", y.count(11), 9);
    }

    private static void promise15Sell() {
        HillBends x = Checks.on("hill 20;sort 1 1 5;sort 1 1 1;bend 0 0;pilgrim 3;has 0 0 3;has 0 1 1");
        Checks.is("half, downwards", x.sell(0, 0), 5);
        Checks.is("one less", x.pilgrim(0, 5), 2);
        Checks.is("half of 1", x.sell(0, 1), 5);
        Checks.is("none is had", x.sell(0, 1), NONE);
        Checks.is("no sort", x.sell(0, 2), NONE);
        Checks.is("no sort", x.sell(0, -1), NONE);
        Checks.is("no pilgrim", x.sell(1, 0), NONE);
        x.climb(0);
        Checks.is("not at the foot", x.sell(0, 0), NONE);
        moneyIs999AtMost();
    }

    /** A cheap thing is left, a dear one taken and sold, again and again. */
    private static void moneyIs999AtMost() {
        StringBuilder text = new StringBuilder("hill 40;sort 1 1 1");
        text.append(";sort 1 1 30".repeat(4)).append(";bend 0 0".repeat(8)).append(";pilgrim 99;has 0 0 1");
        for (int bend = 0; bend < 8; bend++) {
            for (int sort = 1; sort < 3; sort++) {
                text.append(";heap").append(bend).append(' ').append(sort).append(" 9");
            }
        }
        HillBends x = Checks.on(text.toString());
        int money = 99;
        int calls = 0;
        for (int round = 0; round < 9 && calls < 400; round++) {
            for (int n = x.pilgrim(0, 5); n < 8; n++) {
                money = x.buy(0, 0);
            }
            for (int bend = 0; bend < 8; bend++) {
                x.climb(0);
                x.take(0, 1 + (round + bend) % 2);
            }
            for (int bend = 0; bend < 8; bend++) {
                x.down(0);
            }
            for (int sort = 1; sort < 3; sort++) {
                for (int n = x.pilgrim(0, 5 + sort); n > 0; n--) {
                    int due = Math.min(999, money + 15);
                    money = x.sell(0, sort);
                    Checks.is("sold for 15", money, due);
                }
            }
            calls += 45;
        }
        Checks.is("999 at most", money, 999);
    }

    private static void promise16Hand() {
        HillBends x = Checks.onSmall();
        Checks.is("handed", x.hand(0, 1, 0), 1);
        Checks.is("one has it not", x.pilgrim(0, 5), 0);
        Checks.is("none to hand", x.hand(0, 1, 0), NONE);
        Checks.is("to oneself", x.hand(1, 1, 1), NONE);
        Checks.is("handed", x.hand(1, 0, 2), 1);
        Checks.is("handed", x.hand(1, 0, 2), 2);
        Checks.is("no pilgrim", x.hand(0, 2, 2), NONE);
        Checks.is("no pilgrim", x.hand(-1, 0, 2), NONE);
        Checks.is("no sort", x.hand(0, 1, 3), NONE);
        Checks.is("no sort", x.hand(0, 1, -1), NONE);
        Checks.is("acts", x.count(11), 3);
        x.climb(1);
        Checks.is("not of the same height", x.hand(1, 0, 1), NONE);
        HillBends y = Checks.on("hill 5;sort 2 1 1;pilgrim 0;pilgrim 0;has 0 0 1;has 1 0 2");
        Checks.is("too heavy", y.hand(0, 1, 0), NONE);
        Checks.is("not too heavy", y.hand(1, 0, 0), 2);
        HillBends z = Checks.on("hill 40;sort 1 1 1;pilgrim 0;pilgrim 0;has 0 0 1;has 1 0 4;has 1 0 4;has 1 0 1");
        Checks.is("a tenth", z.hand(0, 1, 0), NONE);
    }

    private static void promise17Undo() {
        HillBends x = Checks.onSmall();
        Checks.is("none", x.undo(), NONE);
        x.buy(0, 2);
        x.climb(0);
        x.take(0, 1);
        x.down(0);
        x.sell(0, 1);
        x.hand(0, 1, 2);
        x.night();
        x.climb(2);
        x.force(NONE);
        Checks.is("seven acts", x.count(11), 7);
        Checks.is("the night", x.undo(), 6);
        Checks.is("asks", x.count(7), 0);
        Checks.is("night", x.count(6), 0);
        Checks.is("the hand", x.undo(), 5);
        Checks.is("one has it", x.pilgrim(0, 7), 1);
        Checks.is("the other has it not", x.pilgrim(1, 7), 2);
        Checks.is("the sale", x.undo(), 4);
        Checks.is("money", x.pilgrim(0, 1), 19);
        Checks.is("the way down", x.undo(), 3);
        Checks.is("height", x.pilgrim(0, 0), 1);
        Checks.is("the taking", x.undo(), 2);
        row("bend 0", bend(x, 0), 0, 1, 0, 1, 2, 0, 0, 0);
        row("pilgrim 0", pilgrim(x, 0), 1, 19, 1, 0, 1, 0, 0, 1, 0, 0);
        Checks.is("the climb", x.undo(), 1);
        row("bend 0", bend(x, 0), 0, 1, 0, 0, 2, 0, 0, 0);
        Checks.is("the purchase", x.undo(), 0);
        row("pilgrim 0", pilgrim(x, 0), 0, 20, 0, 0, 2, 1, 0, 0, 0, 0);
        Checks.is("none", x.undo(), NONE);
        undoIsOf20();
        undoLeavesWhatIsNoAct();
    }

    private static void undoIsOf20() {
        HillBends x = Checks.onSmall();
        for (int n = 1; n <= 25; n++) {
            x.night();
            Checks.is("acts after " + n, x.count(11), Math.min(20, n));
        }
        for (int n = 19; n >= 0; n--) {
            Checks.is("undo to " + n, x.undo(), n);
        }
        Checks.is("no more", x.undo(), NONE);
        Checks.is("five nights stay", x.count(6), 5);
        x.night();
        Checks.is("another", x.undo(), 0);
        Checks.is("five nights", x.count(6), 5);
    }

    private static void undoLeavesWhatIsNoAct() {
        HillBends x = Checks.onSmall();
        Checks.rule(x, "ask 1");
        x.night();
        x.force(0);
        x.seed(9);
        x.leaves(0, 4);
        x.note(0, 0, 0);
        x.undo();
        Checks.is("force", x.count(5), 0);
        Checks.is("x", x.count(12), 9);
        Checks.is("told", x.leaves(0, 0), 4);
        Checks.is("notes", x.count(10), 1);
    }

    private static void heapsAreFullAt99() {
        HillBends x = Checks.on("hill 40;sort 1 1 1;bend 0 0;bend 0 0;pilgrim 99;heap 0 0 9");
        for (int n = 0; n < 95; n++) {
            x.buy(0, 0);
            x.climb(0);
            x.down(0);
            Checks.is("left", x.pilgrim(0, 2), n + 1);
            Checks.is("heap", x.bend(0, 3), Math.min(99, 10 + n));
        }
        Checks.is("all that lies", x.count(9), 99);
        x.undo();
        x.undo();
        Checks.is("one that was lost is had again", x.pilgrim(0, 5), 1);
        Checks.is("heap stays", x.bend(0, 3), 99);
    }
}
