/** Boundary sentences of part II of the terms and of promises 7 to 17: what is there, acts, acts undone. */
public final class ActBoundsTests {
    private static final int NONE = HillBends.NONE;
    private static final int FAR = Integer.MAX_VALUE;
    private static final int FAR_BELOW = Integer.MIN_VALUE;
    /** One sort, one bend, one pilgrim with two things. */
    private static final String ONE = "hill 9;sort 1 1 1;bend 0 0;pilgrim 5;has 0 0 2";

    private ActBoundsTests() {
    }

    public static void main(String[] args) {
        pilgrim();
        bend();
        sort();
        night();
        nightIsRefused();
        nightByRule();
        nightWithoutRule();
        nightAsAtItsBegin();
        heights();
        heapsOf99();
        climb();
        down();
        take();
        takeFromBelow();
        takeLeftMore();
        takeCarried();
        buy();
        sell();
        sellTo999();
        hand();
        nineOfASort();
        theLastOfEach();
        undo();
        undoEachAct();
        undoOf20();
        Bounds.close("ActBoundsTests", 7, 17);
    }

    private static HillBends climbed(String text, int times) {
        HillBends x = Checks.on(text);
        for (int i = 0; i < times; i++) {
            x.climb(0);
        }
        return x;
    }

    // ---- what is there

    private static void pilgrim() {
        Bounds.promise(7, "Of a PILGRIM what 0: HEIGHT, 1: MONEY, 2: LEFT, 3: TAKEN, 4: WEIGHT of what they have, 5 to 9: how "
                + "many they have of the SORT less 5 (0, if there is none such).");
        HillBends x = Checks.on("hill 40;sort 9 0 1;sort 1 0 1;pilgrim 0;pilgrim 99;pilgrim 1;pilgrim 2;has 1 0 4;has 1 1 4;has 3 1 1");
        int[][] due = {{0, 0, 0, 0, 0, 0, 0, 0, 0, 0}, {0, 99, 0, 0, 40, 4, 4, 0, 0, 0},
            {0, 1, 0, 0, 0, 0, 0, 0, 0, 0}, {0, 2, 0, 0, 1, 0, 1, 0, 0, 0}};
        for (int pilgrim = 0; pilgrim < 4; pilgrim++) {
            for (int what = 0; what < 10; what++) {
                Bounds.is(pilgrim + ", " + what, x.pilgrim(pilgrim, what), due[pilgrim][what]);
            }
        }
        HillBends y = Checks.on("hill 9;pilgrim 3");
        for (int what = 4; what < 10; what++) {
            Bounds.is("without sorts, " + what, y.pilgrim(0, what), 0);
        }
        Bounds.promise(7, "NONE without these.");
        for (int pilgrim : new int[] {4, 5, FAR, -1, FAR_BELOW}) {
            Bounds.is("of four, " + pilgrim, x.pilgrim(pilgrim, 0), NONE);
            Bounds.is("of four, " + pilgrim + ", a sort", x.pilgrim(pilgrim, 9), NONE);
        }
        for (int what : new int[] {10, 11, FAR, -1, FAR_BELOW}) {
            Bounds.is("what " + what, x.pilgrim(0, what), NONE);
        }
        Bounds.is("of one, 1", y.pilgrim(1, 0), NONE);
        Bounds.is("of none, 0", Checks.on("hill 9").pilgrim(0, 0), NONE);
        Bounds.is("without a hill", new HillBends().pilgrim(0, 0), NONE);
    }

    private static void bend() {
        Bounds.promise(8, "Of a BEND what 0: FIRST, 1: SECOND, 2: what it ASKS for, 3 to 7: how many lie there of the SORT less "
                + "3 (0 likewise).");
        HillBends x = Checks.on("hill 9" + ";sort 1 0 1".repeat(5) + ";bend 4 3" + ";bend 0 0".repeat(7) + ";heap 0 4 9;heap 7 0 1");
        int[] lowest = {4, 3, 4, 0, 0, 0, 0, 9};
        int[] highest = {0, 0, 0, 1, 0, 0, 0, 0};
        for (int what = 0; what < 8; what++) {
            Bounds.is("lowest, " + what, x.bend(0, what), lowest[what]);
            Bounds.is("highest, " + what, x.bend(7, what), highest[what]);
        }
        x.night();
        Bounds.is("asks", x.bend(0, 2), 3);
        HillBends y = Checks.on("hill 9;sort 1 0 1;bend 0 0;heap 0 0 2");
        for (int what = 3; what < 8; what++) {
            Bounds.is("of one sort, " + what, y.bend(0, what), what == 3 ? 2 : 0);
        }
        Bounds.promise(8, "NONE without these.");
        for (int bend : new int[] {8, 9, FAR, -1, FAR_BELOW}) {
            Bounds.is("of eight, " + bend, x.bend(bend, 0), NONE);
            Bounds.is("of eight, " + bend + ", a heap", x.bend(bend, 7), NONE);
        }
        for (int what : new int[] {8, 9, FAR, -1, FAR_BELOW}) {
            Bounds.is("what " + what, x.bend(0, what), NONE);
        }
        Bounds.is("of one, 1", y.bend(1, 0), NONE);
        Bounds.is("of none, 0", Checks.on("hill 9").bend(0, 0), NONE);
        Bounds.is("without a hill", new HillBends().bend(0, 0), NONE);
    }

    private static void sort() {
        Bounds.promise(9, "Of a SORT what 0: WEIGHT, 1: WORTH, 2: PRICE. NONE without these.");
        HillBends x = Checks.on("hill 9" + ";sort 1 0 1".repeat(4) + ";sort 9 30 29");
        int[] due = {9, 30, 29};
        for (int what = 0; what < 3; what++) {
            Bounds.is("of 4, " + what, x.sort(4, what), due[what]);
        }
        for (int sort : new int[] {5, 6, FAR, -1, FAR_BELOW}) {
            Bounds.is("of five, " + sort, x.sort(sort, 0), NONE);
        }
        for (int what : new int[] {3, 4, FAR, -1, FAR_BELOW}) {
            Bounds.is("what " + what, x.sort(0, what), NONE);
        }
        Bounds.is("of one, 1", Checks.on("hill 9;sort 1 0 1").sort(1, 0), NONE);
        Bounds.is("of none, 0", Checks.on("hill 9").sort(0, 0), NONE);
        Bounds.is("without a hill", new HillBends().sort(0, 0), NONE);
    }

    // ---- nights

    private static void night() {
        Bounds.promise(10, "A NIGHT: BENDS that ASK for another SORT than ahead of it, as bits;");
        Bounds.is("no bends", Checks.on("hill 9").night(), 0);
        Bounds.is("alike ones alone", Checks.on(ONE).night(), 0);
        HillBends x = Checks.on("hill 9;sort 1 0 1;sort 1 0 1" + ";bend 0 1".repeat(8));
        Bounds.is("all eight", x.night(), 255);
        Bounds.is("all eight back", x.night(), 255);
        Checks.rule(x, "ask 1 if bend = 0 or bend = 7");
        x.force(0);
        Bounds.is("all but the lowest and the highest", x.night(), 0b01111110);
        Bounds.is("none", x.night(), 0);
        HillBends y = Checks.on("hill 9;sort 1 0 1;sort 1 0 1;bend 1 1;bend 0 1");
        Bounds.is("the unlike one", y.night(), 0b10);
        Bounds.is("alike ones ask for the same", y.bend(0, 2), 1);
        Bounds.is("and count for none", y.count(7), 0b10);
    }

    private static void nightIsRefused() {
        Bounds.promise(10, "NONE, and nothing happens, without a HILL, or in NIGHT 999.");
        Bounds.refused("without a hill", HillBends::new, x -> x.night(), NONE);
        // An object answers freely behind its 512th call; this one goes on as the sentence says.
        HillBends x = Checks.on("hill 9;sort 1 0 1;sort 1 0 1;bend 0 1;pilgrim 0");
        for (int n = 1; n <= 999; n++) {
            Bounds.is("night " + n, x.night(), 1);
            Bounds.is("its number", x.count(6), n);
        }
        Bounds.is("in 999", x.night(), NONE);
        Bounds.is("still 999", x.count(6), 999);
        Bounds.is("asks as before", x.count(7), 1);
        Bounds.is("acts", x.count(11), 20);
        Bounds.is("the last act was a night", x.undo(), 19);
        Bounds.is("998", x.count(6), 998);
        Bounds.is("to 999 again", x.night(), 1);
        Bounds.is("an image of it", x.image(0), 999);
        Bounds.is("years go on", x.years(1, 1, 0), 0);
    }

    private static void nightByRule() {
        Bounds.term("A NIGHT: by the RULE IN FORCE each BEND, as all is at its begin, ASKS for its FIRST,");
        HillBends x = Checks.onSmall();
        Checks.rule(x, "ask 1");
        Checks.rule(x, "ask 0");
        Bounds.is("none in force", x.night(), 0b101);
        x.force(0);
        Bounds.is("to first", x.night(), 0b101);
        Bounds.is("first stays", x.night(), 0);
        x.force(1);
        Bounds.is("to second", x.night(), 0b101);
        Bounds.is("second stays", x.night(), 0);
        x.force(NONE);
        Bounds.is("to the other", x.night(), 0b101);
    }

    private static void nightWithoutRule() {
        Bounds.term("without a RULE for the other one of the two. NIGHT is 1 more (999 at most).");
        HillBends x = Checks.onSmall();
        Checks.rule(x, "ask 1 if bend = 2");
        x.force(0);
        x.night();
        Bounds.is("0 asks for its second", x.count(7), 0b001);
        x.force(NONE);
        Bounds.is("both turn", x.night(), 0b101);
        Bounds.is("2 asks for its second", x.count(7), 0b100);
        Bounds.is("night", x.count(6), 2);
    }

    private static void nightAsAtItsBegin() {
        Bounds.term("passed (PILGRIMS that are higher than it), here (PILGRIMS just below it).");
        String text = "hill 9;sort 1 0 1;sort 1 0 1;bend 0 1;bend 0 1;pilgrim 0;pilgrim 0;pilgrim 0;pilgrim 0;has 0 0 2;has 1 0 1";
        HillBends x = climbed(text, 2);
        x.climb(1);
        asksBy(x, "passed = 2 and bend = 0 or passed = 1 and bend = 1", 0b11);
        asksBy(x, "here = 2 and bend = 0 or here = 1 and bend = 1", 0b11);
        asksBy(x, "night = 0", 0b11);
        asksBy(Checks.on(text), "passed = 0", 0b11);
        asksBy(Checks.on(text), "here = 4", 0b01);
        asksBy(climbed("hill 9;sort 1 0 1;sort 1 0 1;bend 0 1;pilgrim 0;has 0 0 1", 1), "passed = 1 and here = 0", 0b1);
        Bounds.term("bend, first (its FIRST), second, asks (the SORT it ASKS for), night, ones (of its FIRST in its heap), "
                + "twos (of its SECOND there), heap (all that lies there),");
        HillBends y = Checks.on("hill 9" + ";sort 1 0 1".repeat(5) + ";bend 3 4;bend 2 1;heap 0 3 9;heap 0 4 8;heap 0 0 7;heap 1 2 5");
        asksBy(y, "ones = 9 and twos = 8 and heap = 24 or ones = 5 and twos = 0 and heap = 5", 0b11);
        asksBy(y, "first = 3 and second = 4 and asks = 3 or first = 2 and second = 1 and asks = 2", 0b11);
        y.force(NONE);
        y.night();
        asksBy(y, "bend = 0 and asks = 4 and night = 1 or bend = 1 and asks = 1 and night = 1", 0b11);
    }

    /** Which bends ask for their first behind a night, if those do for which a fact holds; the night is undone. */
    private static void asksBy(HillBends x, String fact, int due) {
        x.force(Checks.rule(x, "ask 1 if " + fact));
        x.night();
        Bounds.is("firsts by " + fact, (1 << x.count(2)) - 1 - x.count(7), due);
        x.undo();
    }

    // ---- climbing and coming down

    private static void heights() {
        Bounds.term("A PILGRIM's HEIGHT is how many BENDS they have behind them below (0: at the foot); just below BEND HEIGHT "
                + "they stand, and at the top, if there is none.");
        HillBends x = climbed(ONE, 0);
        Bounds.is("at the foot", x.pilgrim(0, 0), 0);
        Bounds.is("nobody is at the top", x.count(8), 0);
        Bounds.is("up", x.climb(0), 1);
        Bounds.is("at the top", x.count(8), 1);
        HillBends y = Checks.on("hill 9;sort 1 1 3;pilgrim 7;pilgrim 0;pilgrim 0;pilgrim 0;has 0 0 1");
        Bounds.is("no bends: all are at the top", y.count(8), 0b1111);
        Bounds.is("and at the foot", y.buy(0, 0), 4);
        Bounds.is("from which nobody climbs", y.climb(0), NONE);
        Bounds.is("nor comes down", y.down(0), NONE);
        HillBends z = climbed("hill 9;sort 1 1 1" + ";bend 0 0".repeat(8) + ";pilgrim 9;pilgrim 9;has 0 0 4;has 0 0 4;has 1 0 4", 8);
        Bounds.is("the highest", z.pilgrim(0, 0), 8);
        Bounds.is("they alone", z.count(8), 0b01);
        Bounds.is("left", z.pilgrim(0, 2), 8);
    }

    private static void heapsOf99() {
        Bounds.term("A heap holds 99 of a SORT at most (more are lost).");
        HillBends x = Checks.on("hill 40;sort 1 1 1;sort 1 1 1;bend 0 1;bend 0 1;pilgrim 99;has 0 0 1;heap 0 0 9;heap 0 1 9;heap 1 0 9");
        for (int n = 10; n <= 101; n++) {
            Bounds.is("up", x.climb(0), 1);
            Bounds.is("heap of " + n, x.bend(0, 3), Math.min(99, n));
            x.down(0);
            x.buy(0, 0);
        }
        Bounds.is("left", x.pilgrim(0, 2), 92);
        Bounds.is("of the other sort", x.bend(0, 4), 9);
        Bounds.is("of the other bend", x.bend(1, 3), 9);
        Bounds.is("all", x.count(9), 117);
        x.climb(0);
        Bounds.is("it is gone", x.pilgrim(0, 5), 0);
        Bounds.is("one is taken", x.take(0, 0), 1);
        Bounds.is("98", x.bend(0, 3), 98);
        x.down(0);
        x.climb(0);
        Bounds.is("99 again", x.bend(0, 3), 99);
    }

    private static void climb() {
        Bounds.promise(11, "CLIMB: HEIGHT; NONE, and nothing happens, without these.");
        for (int pilgrim : new int[] {2, 3, 4, FAR, -1, FAR_BELOW}) {
            Bounds.refused("of two, " + pilgrim, Bounds::midway, x -> x.climb(pilgrim), NONE);
        }
        Bounds.term("CLIMB (a PILGRIM not at the top, that has a thing of the SORT the BEND ASKS for, leaves it in its heap: "
                + "HEIGHT 1 more, LEFT 1 more)");
        Bounds.is("the lowest", Checks.on(ONE).climb(0), 1);
        Bounds.is("with the last thing", climbed("hill 9;sort 1 1 1;bend 0 0;bend 0 0;pilgrim 5;has 0 0 2", 1).climb(0), 2);
        Bounds.refused("at the top", () -> climbed(ONE, 1), x -> x.climb(0), NONE);
        Bounds.refused("no bends", () -> Checks.on("hill 9;sort 1 1 1;pilgrim 0;has 0 0 1"), x -> x.climb(0), NONE);
        Bounds.refused("none of it", () -> Checks.on("hill 9;sort 1 1 1;bend 0 0;pilgrim 0"), x -> x.climb(0), NONE);
        Bounds.refused("the last was left", () -> climbed("hill 9;sort 1 1 1;bend 0 0;bend 0 0;pilgrim 5;has 0 0 1", 1), x -> x.climb(0), NONE);
        Bounds.refused("of the second alone", () -> Checks.on("hill 9;sort 1 1 1;sort 1 1 1;bend 0 1;pilgrim 0;has 0 1 4"), x -> x.climb(0), NONE);
        Bounds.refused("another asks for it", () -> {
            HillBends x = Checks.on("hill 9;sort 1 1 1;sort 1 1 1;bend 0 1;pilgrim 0;has 0 0 4");
            x.night();
            return x;
        }, x -> x.climb(0), NONE);
        Bounds.refused("another one has it", () -> Checks.on("hill 9;sort 1 1 1;bend 0 0;pilgrim 0;pilgrim 0;has 1 0 1"), x -> x.climb(0), NONE);
        HillBends y = climbed("hill 9;sort 1 1 1;sort 1 1 1;bend 0 1;pilgrim 5;has 0 0 2;has 0 1 2", 1);
        Bounds.is("one less", y.pilgrim(0, 5), 1);
        Bounds.is("none less of the other", y.pilgrim(0, 6), 2);
        Bounds.is("left", y.pilgrim(0, 2), 1);
        Bounds.is("lying", y.bend(0, 3), 1);
        Bounds.is("acts", y.count(11), 1);
    }

    private static void down() {
        Bounds.promise(12, "DOWN: HEIGHT; NONE, and nothing happens, without these.");
        for (int pilgrim : new int[] {2, 4, FAR, -1, FAR_BELOW}) {
            Bounds.refused("of two, " + pilgrim, Bounds::midway, x -> x.down(pilgrim), NONE);
        }
        Bounds.term("DOWN (HEIGHT 1 less, not from the foot)");
        Bounds.refused("at the foot", () -> Checks.on(ONE), x -> x.down(0), NONE);
        Bounds.refused("at the foot again", () -> {
            HillBends x = climbed(ONE, 1);
            x.down(0);
            return x;
        }, x -> x.down(0), NONE);
        HillBends y = climbed("hill 9;sort 1 1 1" + ";bend 0 0".repeat(8) + ";pilgrim 9;has 0 0 4;has 0 0 4", 8);
        for (int height = 7; height >= 0; height--) {
            Bounds.is("down", y.down(0), height);
        }
        Bounds.is("left", y.pilgrim(0, 2), 8);
        Bounds.is("taken", y.pilgrim(0, 3), 0);
        Bounds.is("lying", y.count(9), 8);
        Bounds.is("acts", y.count(11), 16);
    }

    // ---- taking

    private static void take() {
        Bounds.promise(13, "TAKE: how many they have of it; NONE, and nothing happens, without these.");
        String text = "hill 9;sort 1 1 1;sort 1 1 1;bend 0 0;pilgrim 5;has 0 0 2;heap 0 1 1";
        HillBends x = climbed(text, 1);
        Bounds.is("the only one", x.take(0, 1), 1);
        Bounds.is("taken", x.pilgrim(0, 3), 1);
        Bounds.is("none lies there", x.bend(0, 4), 0);
        Bounds.is("what was left", climbed(text, 1).take(0, 0), 2);
        Bounds.refused("at the foot", () -> {
            HillBends y = climbed(text, 1);
            y.down(0);
            return y;
        }, y -> y.take(0, 1), NONE);
        Bounds.refused("none lies there", () -> climbed(text.replace(";heap 0 1 1", ""), 1), y -> y.take(0, 1), NONE);
        for (int sort : new int[] {2, 4, 5, FAR, -1, FAR_BELOW}) {
            Bounds.refused("of two sorts, " + sort, () -> climbed(text, 1), y -> y.take(0, sort), NONE);
        }
        for (int pilgrim : new int[] {1, 4, FAR, -1, FAR_BELOW}) {
            Bounds.refused("of one, " + pilgrim, () -> climbed(text, 1), y -> y.take(pilgrim, 0), NONE);
        }
    }

    private static void takeFromBelow() {
        Bounds.term("TAKE (a PILGRIM not at the foot has a thing of a SORT from the heap of the BEND just below them,");
        String text = "hill 9;sort 1 1 1;sort 1 1 1;sort 1 1 1;bend 0 0;bend 0 0;bend 0 0;pilgrim 5;has 0 0 3;heap 0 1 1;heap 1 2 1;heap 2 1 1";
        Bounds.refused("from two below", () -> climbed(text, 2), x -> x.take(0, 1), NONE);
        Bounds.is("from just below", climbed(text, 2).take(0, 2), 1);
        Bounds.refused("from just above", () -> climbed(text, 1), x -> x.take(0, 2), NONE);
        HillBends x = climbed(text, 3);
        Bounds.is("at the top", x.take(0, 1), 1);
        Bounds.is("it was that one", x.bend(2, 4), 0);
        Bounds.is("and not that", x.bend(0, 4), 1);
    }

    private static void takeLeftMore() {
        Bounds.term("if they have LEFT more than they have TAKEN, if they can carry it; TAKEN 1 more)");
        String text = "hill 9;sort 1 1 1;sort 1 1 1;bend 0 0;bend 0 0;pilgrim 5;has 0 0 2;heap 0 1 9;heap 1 1 9";
        HillBends x = climbed(text, 2);
        Bounds.is("one of two", x.take(0, 1), 1);
        Bounds.is("two of two", x.take(0, 1), 2);
        Bounds.is("three of two", x.take(0, 1), NONE);
        x.down(0);
        Bounds.is("nor lower", x.take(0, 1), NONE);
        Bounds.refused("as many as left", () -> {
            HillBends y = climbed(text, 1);
            y.take(0, 1);
            return y;
        }, y -> y.take(0, 1), NONE);
        HillBends z = climbed(text, 1);
        z.down(0);
        z.climb(0);
        Bounds.is("left twice at one bend", z.take(0, 1), 1);
        Bounds.is("taken twice", z.take(0, 1), 2);
        Bounds.is("and no more", z.take(0, 1), NONE);
    }

    private static void takeCarried() {
        Bounds.term("TAKE (a PILGRIM not at the foot has a thing of a SORT from the heap");
        String text = ";sort 2 1 1;sort 3 1 1;bend 0 0;pilgrim 0;has 0 0 2;heap 0 1 1";
        Bounds.is("as heavy as can be", climbed("hill 5" + text, 1).take(0, 1), 1);
        Bounds.refused("too heavy by one", () -> climbed("hill 4" + text, 1), x -> x.take(0, 1), NONE);
        String nine = "hill 40;sort 1 1 1;sort 1 1 1;bend 0 0;pilgrim 0;has 0 0 1;heap 0 1 1;has 0 1 4;has 0 1 4";
        Bounds.is("a ninth", climbed(nine, 1).take(0, 1), 9);
        Bounds.refused("a tenth", () -> climbed(nine + ";has 0 1 1", 1), x -> x.take(0, 1), NONE);
    }

    // ---- buying, selling, handing

    private static void buy() {
        Bounds.promise(14, "BUY: MONEY they have; NONE, and nothing happens, without these.");
        for (int sort : new int[] {3, 4, 5, FAR, -1, FAR_BELOW}) {
            Bounds.refused("of three sorts, " + sort, Bounds::midway, x -> x.buy(1, sort), NONE);
        }
        for (int pilgrim : new int[] {2, 4, FAR, -1, FAR_BELOW}) {
            Bounds.refused("of two, " + pilgrim, Bounds::midway, x -> x.buy(pilgrim, 2), NONE);
        }
        Bounds.term("BUY (at the foot, for its PRICE, if they can carry it)");
        Bounds.is("for all money", Checks.on("hill 9;sort 1 1 30;pilgrim 30").buy(0, 0), 0);
        Bounds.refused("one short", () -> Checks.on("hill 9;sort 1 1 30;pilgrim 29"), x -> x.buy(0, 0), NONE);
        Bounds.refused("without money", () -> Checks.on("hill 9;sort 1 1 1;pilgrim 0"), x -> x.buy(0, 0), NONE);
        Bounds.is("as heavy as can be", Checks.on("hill 9;sort 9 1 1;pilgrim 9").buy(0, 0), 8);
        Bounds.refused("too heavy by one", () -> Checks.on("hill 8;sort 9 1 1;pilgrim 9"), x -> x.buy(0, 0), NONE);
        Bounds.is("with what is had", Checks.on("hill 9;sort 4 1 1;sort 5 1 1;pilgrim 9;has 0 0 1").buy(0, 1), 8);
        Bounds.refused("with what is had, too heavy", () -> Checks.on("hill 8;sort 4 1 1;sort 5 1 1;pilgrim 9;has 0 0 1"), x -> x.buy(0, 1), NONE);
        Bounds.refused("not at the foot", () -> climbed(ONE, 1), x -> x.buy(0, 0), NONE);
        HillBends y = climbed(ONE, 1);
        y.down(0);
        Bounds.is("at the foot again", y.buy(0, 0), 4);
        Bounds.is("at the foot that is the top", Checks.on("hill 9;sort 1 1 1;pilgrim 9").buy(0, 0), 8);
    }

    private static void sell() {
        Bounds.promise(15, "SELL: MONEY they have; NONE, and nothing happens, without these.");
        Bounds.is("the last", Checks.on("hill 9;sort 1 1 9;pilgrim 1;has 0 0 1").sell(0, 0), 5);
        Bounds.refused("none is had", () -> Checks.on("hill 9;sort 1 1 9;pilgrim 1"), x -> x.sell(0, 0), NONE);
        Bounds.refused("another one has it", () -> Checks.on("hill 9;sort 1 1 9;pilgrim 1;pilgrim 1;has 1 0 1"), x -> x.sell(0, 0), NONE);
        Bounds.refused("not at the foot", () -> climbed(ONE, 1), x -> x.sell(0, 0), NONE);
        for (int sort : new int[] {3, 4, 5, FAR, -1, FAR_BELOW}) {
            Bounds.refused("of three sorts, " + sort, Bounds::midway, x -> x.sell(1, sort), NONE);
        }
        for (int pilgrim : new int[] {2, 4, FAR, -1, FAR_BELOW}) {
            Bounds.refused("of two, " + pilgrim, Bounds::midway, x -> x.sell(pilgrim, 2), NONE);
        }
        Bounds.term("SELL (at the foot, a thing for half its PRICE, downwards; MONEY 999 at most)");
        int[] prices = {1, 2, 3, 29, 30};
        int[] halves = {0, 1, 1, 14, 15};
        for (int i = 0; i < 5; i++) {
            HillBends x = Checks.on("hill 9;sort 1 1 " + prices[i] + ";pilgrim 7;has 0 0 1");
            Bounds.is("half of " + prices[i], x.sell(0, 0), 7 + halves[i]);
            Bounds.is("it is sold", x.pilgrim(0, 5), 0);
            Bounds.is("an act", x.count(11), 1);
        }
    }

    /** Two pilgrims with 40 things of price 30 each; one sells all of theirs, and what the other one hands on. */
    private static HillBends seller(int money, int sold) {
        StringBuilder text = new StringBuilder("hill 40" + ";sort 1 0 30".repeat(5) + ";pilgrim " + money + ";pilgrim 0");
        for (int i = 0; i < 20; i++) {
            text.append(";has ").append(i / 10).append(' ').append(i % 5).append(" 4");
        }
        HillBends x = Checks.on(text.toString());
        for (int i = 0; i < sold; i++) {
            if (i >= 40) {
                x.hand(1, 0, i % 5);
            }
            Bounds.is("sold " + (i + 1), x.sell(0, i % 5), Math.min(999, money + 15 * (i + 1)));
        }
        return x;
    }

    private static void sellTo999() {
        Bounds.term("SELL (at the foot, a thing for half its PRICE, downwards; MONEY 999 at most)");
        HillBends x = seller(99, 60);
        Bounds.is("just 999", x.pilgrim(0, 1), 999);
        x.hand(1, 0, 0);
        Bounds.is("not above", x.sell(0, 0), 999);
        Bounds.is("though it is sold", x.pilgrim(0, 5), 0);
        HillBends y = seller(90, 61);
        Bounds.is("999 by less than half a price", y.pilgrim(0, 1), 999);
        y.undo();
        Bounds.is("undone", y.pilgrim(0, 1), 990);
        Bounds.is("money of 999 can be spent", seller(90, 61).buy(0, 0), 969);
        Bounds.is("and is rich", seller(90, 61).rich(1), 999);
    }

    private static void hand() {
        Bounds.promise(16, "HAND: how many the other one has; NONE, and nothing happens, without these (unlike).");
        String text = "hill 5;sort 2 1 1;sort 3 1 1;bend 0 0;pilgrim 0;pilgrim 0;has 0 0 1;has 0 1 1;has 1 0 1";
        for (int sort : new int[] {3, 4, 5, FAR, -1, FAR_BELOW}) {
            Bounds.refused("of three sorts, " + sort, Checks::onSmall, x -> x.hand(1, 0, sort), NONE);
        }
        for (int other : new int[] {2, 4, FAR, -1, FAR_BELOW}) {
            Bounds.refused("of two, to " + other, Checks::onSmall, x -> x.hand(1, other, 2), NONE);
            Bounds.refused("of two, from " + other, Checks::onSmall, x -> x.hand(other, 1, 2), NONE);
        }
        Bounds.refused("to oneself", () -> Checks.on(text), x -> x.hand(0, 0, 0), NONE);
        Bounds.refused("to oneself, though it could be carried", Checks::onSmall, x -> x.hand(0, 0, 0), NONE);
        Bounds.term("HAND (a thing from one to another one of the same HEIGHT, who can carry it).");
        Bounds.is("as heavy as can be", Checks.on(text).hand(0, 1, 1), 1);
        Bounds.refused("too heavy by one", () -> Checks.on(text.replace("hill 5", "hill 4").replace("has 0 0 1;", "")), x -> x.hand(0, 1, 1), NONE);
        Bounds.refused("none of it", () -> Checks.on(text), x -> x.hand(1, 0, 1), NONE);
        Bounds.refused("none of it, though it could be carried", () -> Checks.on(text.replace("hill 5", "hill 40")), x -> x.hand(1, 0, 1), NONE);
        Bounds.refused("from above", () -> climbed(text, 1), x -> x.hand(0, 1, 1), NONE);
        Bounds.refused("from below", () -> climbed(text, 1), x -> x.hand(1, 0, 0), NONE);
        HillBends above = climbed(text, 1);
        above.climb(1);
        Bounds.is("both above", above.hand(0, 1, 1), 1);
    }

    private static void nineOfASort() {
        Bounds.term("Of a SORT one has 9 at most; more can't be carried.");
        String eight = "hill 40;sort 1 1 1;pilgrim 9;pilgrim 9;has 0 0 4;has 0 0 4;has 1 0 2";
        Bounds.is("a ninth is bought", Checks.on(eight).buy(0, 0), 8);
        Bounds.is("a ninth is handed", Checks.on(eight).hand(1, 0, 0), 9);
        Bounds.refused("a tenth isn't bought", () -> Checks.on(eight + ";has 0 0 1"), x -> x.buy(0, 0), NONE);
        Bounds.refused("a tenth isn't handed", () -> Checks.on(eight + ";has 0 0 1"), x -> x.hand(1, 0, 0), NONE);
        HillBends y = Checks.on(eight + ";has 0 0 1");
        Bounds.is("one of nine is handed on", y.hand(0, 1, 0), 3);
        Bounds.is("and a ninth bought", y.buy(0, 0), 8);
    }

    /** Pilgrim 3, sort 4 and bends up to 7 do as the first ones do, and leave these alone. */
    private static void theLastOfEach() {
        Bounds.term("SORTS 0 to 4, BENDS 0 to 7, PILGRIMS 0 to 3, in the order told;");
        String text = "hill 40;sort 1 1 4;sort 1 1 4;sort 1 1 4;sort 1 1 4;sort 2 1 6" + ";bend 4 4".repeat(8) + ";pilgrim 9".repeat(4)
                + ";has 3 4 4;has 3 4 3;heap 7 3 1";
        HillBends x = Checks.on(text);
        Bounds.is("bought", x.buy(3, 4), 3);
        Bounds.is("had", x.pilgrim(3, 9), 8);
        Bounds.is("sold", x.sell(3, 4), 6);
        Bounds.is("handed", x.hand(3, 2, 4), 1);
        Bounds.is("and back", x.hand(2, 3, 4), 7);
        Bounds.is("bought again", x.buy(3, 4), 0);
        for (int bend = 0; bend < 8; bend++) {
            Bounds.is("up", x.climb(3), bend + 1);
            for (int other = 0; other < 8; other++) {
                Bounds.is("lying at " + other, x.bend(other, 7), other <= bend ? 1 : 0);
            }
        }
        Bounds.is("at the top", x.count(8), 0b1000);
        Bounds.is("left", x.pilgrim(3, 2), 8);
        Bounds.is("taken", x.take(3, 4), 1);
        Bounds.is("taken of another sort", x.take(3, 3), 1);
        Bounds.is("down", x.down(3), 7);
        Bounds.is("taken lower", x.take(3, 4), 2);
        Bounds.is("taken in all", x.pilgrim(3, 3), 3);
        Bounds.is("weight", x.pilgrim(3, 4), 5);
        for (int pilgrim = 0; pilgrim < 3; pilgrim++) {
            for (int what = 0; what < 10; what++) {
                Bounds.is("of " + pilgrim + ", " + what, x.pilgrim(pilgrim, what), what == 1 ? 9 : 0);
            }
        }
    }

    // ---- acts undone

    private static void undo() {
        Bounds.promise(17, "The last ACT is UNDONE: how many more can be;");
        HillBends x = Checks.onSmall();
        x.night();
        x.buy(0, 2);
        Bounds.is("one more", x.undo(), 1);
        Bounds.is("money", x.pilgrim(0, 1), 20);
        Bounds.is("night", x.count(6), 1);
        Bounds.is("none more", x.undo(), 0);
        Bounds.is("night", x.count(6), 0);
        Bounds.promise(17, "NONE, and nothing happens: none can.");
        Bounds.refused("no act", Checks::onSmall, y -> y.undo(), NONE);
        Bounds.refused("without a hill", HillBends::new, y -> y.undo(), NONE);
        Bounds.refused("all are undone", () -> {
            HillBends y = Checks.onSmall();
            y.night();
            y.undo();
            return y;
        }, y -> y.undo(), NONE);
        Bounds.refused("behind another hill", () -> {
            HillBends y = Bounds.midway();
            y.hill();
            return y;
        }, y -> y.undo(), NONE);
        Bounds.refused("gone back", () -> {
            HillBends y = Bounds.midway();
            y.back(1);
            return y;
        }, y -> y.undo(), NONE);
        Bounds.refused("calls that are no acts", () -> {
            HillBends y = Checks.onSmall();
            y.climb(1);
            y.down(0);
            y.force(NONE);
            y.seed(3);
            y.leaves(0, 1);
            y.note(0, 0, 0);
            y.image(0);
            y.ways(0);
            return y;
        }, y -> y.undo(), NONE);
    }

    private static void undoEachAct() {
        Bounds.term("ACTS: a NIGHT;");
        HillBends x = Checks.onSmall();
        Bounds.is("no act yet", x.count(11), 0);
        x.night();
        Bounds.is("a night is one", x.count(11), 1);
        Bounds.is("and is undone", x.undo(), 0);
        Bounds.is("night 0 again", x.count(6), 0);
        Bounds.is("asked as at first", x.count(7), 0);
        Bounds.promise(17, "The last ACT is UNDONE");
        Bounds.refused("a night", Bounds::midway, y -> y.night() < 0 ? NONE : y.undo(), 3);
        Bounds.refused("a climb", Bounds::midway, y -> y.climb(1) < 0 ? NONE : y.undo(), 3);
        Bounds.refused("a way down", Bounds::midway, y -> y.down(0) < 0 ? NONE : y.undo(), 3);
        Bounds.refused("a thing taken", Bounds::midway, y -> y.take(0, 0) < 0 ? NONE : y.undo(), 3);
        Bounds.refused("a purchase", Bounds::midway, y -> y.buy(1, 2) < 0 ? NONE : y.undo(), 3);
        Bounds.refused("a sale", Bounds::midway, y -> y.sell(1, 2) < 0 ? NONE : y.undo(), 3);
        Bounds.refused("a thing handed", Checks::onSmall, y -> y.hand(0, 1, 0) < 0 ? NONE : y.undo(), 0);
        Bounds.refused("a thing that was lost", ActBoundsTests::onFullHeap, y -> y.climb(0) < 0 ? NONE : y.undo(), 19);
    }

    /** A heap of 99, below which somebody has one more; nineteen acts can be undone. */
    private static HillBends onFullHeap() {
        HillBends x = Checks.on("hill 40;sort 1 1 1;bend 0 0;pilgrim 99;has 0 0 2;heap 0 0 9");
        for (int n = 0; n < 90; n++) {
            x.climb(0);
            x.down(0);
            x.buy(0, 0);
        }
        x.undo();
        return x;
    }

    private static void undoOf20() {
        Bounds.term("The last 20 ACTS can be UNDONE, the last first.");
        for (int acts : new int[] {19, 20, 21, 40, 41}) {
            HillBends x = Checks.onSmall();
            for (int i = 0; i < acts; i++) {
                x.night();
            }
            int kept = Math.min(20, acts);
            Bounds.is(acts + " acts", x.count(11), kept);
            for (int i = 1; i <= kept; i++) {
                Bounds.is("undo " + i + " of " + acts, x.undo(), kept - i);
                Bounds.is("night", x.count(6), acts - i);
            }
            Bounds.is("no more of " + acts, x.undo(), NONE);
            Bounds.is("night", x.count(6), acts - kept);
        }
        HillBends y = Checks.onSmall();
        for (int i = 0; i < 20; i++) {
            y.buy(0, 2);
            y.sell(0, 2);
        }
        Bounds.is("refused acts don't count", y.count(11), 20);
        y.undo();
        y.night();
        Bounds.is("twenty again", y.count(11), 20);
        Bounds.is("the night first", y.undo(), 19);
        Bounds.is("no night", y.count(6), 0);
    }
}
