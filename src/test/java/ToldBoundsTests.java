/** Boundary sentences of part III of the terms and of promises 28 to 37: what is told, draws, counts, images. */
public final class ToldBoundsTests {
    private static final int NONE = HillBends.NONE;
    private static final int FAR = Integer.MAX_VALUE;
    private static final int FAR_BELOW = Integer.MIN_VALUE;
    private static final String EIGHT = "hill 40;sort 1 1 1;sort 1 1 1" + ";bend 0 1".repeat(8) + ";pilgrim 0";

    private ToldBoundsTests() {
    }

    public static void main(String[] args) {
        leaves();
        gifts();
        giftsOfRows();
        giftsNot();
        note();
        noteIsRefused();
        ruled();
        ruledByNotes();
        look();
        lookNot();
        seed();
        draws();
        years();
        yearsOfNights();
        yearsNot();
        count();
        image();
        imageOfAll();
        back();
        backIsRefused();
        Bounds.close("ToldBoundsTests", 28, 37);
    }

    // ---- what was left

    private static void leaves() {
        Bounds.promise(28, "LEAVES: how many it was;");
        HillBends x = Checks.on("hill 9" + ";sort 1 1 1".repeat(5));
        for (int sort = 0; sort < 5; sort++) {
            int was = 0;
            for (int many = 9; many >= 0; many--) {
                Bounds.is(many + " of " + sort, x.leaves(sort, many), was);
                was = many;
            }
        }
        x.leaves(0, 9);
        Bounds.is("each of its own", x.leaves(4, 1), 0);
        Bounds.is("the same again", x.leaves(0, 9), 9);
        Bounds.is("no act", x.count(11), 0);
        Bounds.promise(28, "NONE, and nothing happens, without these.");
        for (int many : new int[] {10, 11, FAR, -1, FAR_BELOW}) {
            Bounds.refused("so many: " + many, Bounds::midway, y -> y.leaves(0, many), NONE);
        }
        for (int sort : new int[] {3, 4, 5, FAR, -1, FAR_BELOW}) {
            Bounds.refused("of three sorts, " + sort, Bounds::midway, y -> y.leaves(sort, 1), NONE);
        }
        Bounds.refused("of five sorts, 5", () -> Checks.on("hill 9" + ";sort 1 1 1".repeat(5)), y -> y.leaves(5, 1), NONE);
        Bounds.refused("without a hill", HillBends::new, y -> y.leaves(0, 0), NONE);
    }

    private static HillBends left(String text, int... many) {
        HillBends x = Checks.on(text);
        for (int sort = 0; sort < many.length; sort++) {
            x.leaves(sort, many[sort]);
        }
        return x;
    }

    /** Rows; what each of the bends that had something can have had; what they had by the first row. */
    private static void gifts(String what, HillBends x, int rows, int[] can, int[] first) {
        Bounds.is(what + ": rows", x.gifts(NONE), rows);
        for (int bend = 0; bend < 8; bend++) {
            Bounds.is(what + ": can " + bend, x.gifts(bend), bend < can.length ? can[bend] : 0);
            Bounds.is(what + ": first " + bend, x.gifts(10 + bend), bend < first.length ? first[bend] : -2);
        }
    }

    private static void gifts() {
        int[] none = {};
        Bounds.promise(29, "More things than BENDS: no row; none: one row, of no BENDS.");
        gifts("nothing at eight bends", left(EIGHT), 1, none, none);
        gifts("nothing at no bends", left("hill 9;sort 1 1 1"), 1, none, none);
        gifts("nothing, no sorts", left("hill 9"), 1, none, none);
        gifts("one thing at no bends", left("hill 9;sort 1 1 1", 1), 0, none, none);
        gifts("eight things at eight bends", left(EIGHT, 8, 0), 1, new int[] {1, 1, 1, 1, 1, 1, 1, 1}, new int[8]);
        gifts("nine things at eight bends", left(EIGHT, 9, 0), 0, none, none);
        gifts("five and four things", left(EIGHT, 5, 4), 0, none, none);
        gifts("45 things", left("hill 9" + ";sort 1 1 1".repeat(5) + ";bend 0 0".repeat(8), 9, 9, 9, 9, 9), 0, none, none);
        gifts("two things at one bend", left("hill 9;sort 1 1 1;sort 1 1 1;bend 0 1", 1, 1), 0, none, none);
        HillBends x = left(EIGHT, 8, 0);
        gifts("eight", x, 1, new int[] {1, 1, 1, 1, 1, 1, 1, 1}, new int[8]);
        x.leaves(0, 9);
        gifts("nine", x, 0, none, none);
        x.leaves(0, 2);
        gifts("two", x, 1, new int[] {1, 1}, new int[2]);
        x.leaves(0, 0);
        gifts("none any more", x, 1, none, none);
    }

    private static void giftsOfRows() {
        int three = 0b11;
        Bounds.promise(29, "GIFTS what NONE: how many rows, 0 to 7: what that BEND can have had, as bits, 10 to 17: what the "
                + "BEND less 10 had by the first row (no row, or the BEND had nothing: -2).");
        gifts("four and four", left(EIGHT, 4, 4), 70, new int[] {three, three, three, three, three, three, three, three},
                new int[] {0, 0, 0, 0, 1, 1, 1, 1});
        gifts("seven and one", left(EIGHT, 7, 1), 8, new int[] {three, three, three, three, three, three, three, three},
                new int[] {0, 0, 0, 0, 0, 0, 0, 1});
        gifts("the lowest bends alone", left(EIGHT, 1, 1), 2, new int[] {three, three}, new int[] {0, 1});
        gifts("one", left(EIGHT, 0, 1), 1, new int[] {0b10}, new int[] {1});
        Bounds.term("GIFTS: a monk left so many of each SORT, as is TOLD (LEAVES: of a SORT so many, 0 to 9; 0 each at first), "
                + "one at each BEND, "
                + "from BEND 0 on, as many BENDS as things: rows of what each of these had, its FIRST or its SECOND");
        gifts("no bend asks for it", left("hill 9;sort 1 1 1;sort 1 1 1;bend 0 0;bend 0 0", 1, 1), 0, new int[0], new int[0]);
        String text = "hill 9;sort 1 1 1;sort 1 1 1;sort 1 1 1;bend 2 1;bend 1 0;bend 0 2";
        gifts("first ahead of second, whatever their numbers", left(text, 1, 1, 1), 2, new int[] {0b110, 0b011, 0b101}, new int[] {2, 1, 0});
        gifts("by the second alone", left(text, 0, 1, 1), 1, new int[] {0b100, 0b10}, new int[] {2, 1});
        gifts("a first that leads nowhere", left(text, 1, 2, 0), 1, new int[] {0b10, 0b10, 0b1}, new int[] {1, 1, 0});
        Bounds.term("(one alike for both counts once): how many rows; what a BEND can have had, as bits of SORTS; "
                + "what it had by the first row (FIRST ahead of SECOND, the lowest BEND first).");
        gifts("alike ones", left("hill 9;sort 1 1 1" + ";bend 0 0".repeat(8), 8), 1, new int[] {1, 1, 1, 1, 1, 1, 1, 1}, new int[8]);
        gifts("one alike of two", left("hill 9;sort 1 1 1;sort 1 1 1;bend 0 0;bend 0 1", 1, 1), 1, new int[] {1, 2}, new int[] {0, 1});
        gifts("one alike of three", left("hill 9;sort 1 1 1;sort 1 1 1;bend 0 1;bend 0 0;bend 0 1", 2, 1), 2,
                new int[] {3, 1, 3}, new int[] {0, 0, 1});
    }

    private static void giftsNot() {
        Bounds.promise(29, "-3 for others, or without a HILL.");
        for (int what : new int[] {-2, -3, FAR_BELOW, 8, 9, 18, 19, FAR}) {
            Bounds.refused("what " + what, Bounds::midway, x -> x.gifts(what), -3);
            Bounds.is("at eight bends, what " + what, left(EIGHT, 4, 4).gifts(what), -3);
        }
        for (int what : new int[] {NONE, 0, 7, 10, 17}) {
            Bounds.refused("without a hill, what " + what, HillBends::new, x -> x.gifts(what), -3);
        }
        Bounds.is("the highest bend", left(EIGHT, 8, 0).gifts(7), 1);
        Bounds.is("the highest bend by the first row", left(EIGHT, 0, 8).gifts(17), 1);
    }

    // ---- notes and rules

    private static HillBends withNotes(int notes) {
        HillBends x = Bounds.midway();
        for (int n = 1; n < notes; n++) {
            Bounds.is("notes", x.note(0, 0, 0), n + 1);
        }
        return x;
    }

    private static void note() {
        Bounds.promise(30, "A NOTE (n NONE: there are none then, 0): how many;");
        HillBends x = Checks.on(EIGHT + ";sort 1 1 1");
        Bounds.is("none yet", x.note(NONE, 0, 0), 0);
        Bounds.is("the first night", x.note(0, 0, 0), 1);
        Bounds.is("the last night", x.note(60, 7, 1), 2);
        Bounds.is("the same again", x.note(60, 7, 1), 3);
        Bounds.is("what it never asks for", x.note(1, 0, 2), 4);
        Bounds.is("how many", x.count(10), 4);
        Bounds.is("none then", x.note(NONE, 0, 0), 0);
        Bounds.is("none", x.count(10), 0);
        Bounds.is("all rules are so again", x.ruled(0), 1);
        for (int n = 1; n <= 10; n++) {
            Bounds.is("the " + n + "th", x.note(n, 0, 0), n);
        }
        Bounds.is("none of ten, whatever else is told", x.note(NONE, FAR, FAR_BELOW), 0);
        Bounds.is("the first again", x.note(0, 0, 0), 1);
        Bounds.is("none without a hill", new HillBends().note(NONE, 0, 0), 0);
        Bounds.is("no act", x.count(11), 0);
    }

    private static void noteIsRefused() {
        Bounds.promise(30, "-2, and nothing happens, without these, or if there are 10.");
        for (int n : new int[] {61, 62, 999, FAR, -2, FAR_BELOW}) {
            Bounds.refused("night " + n, Bounds::midway, x -> x.note(n, 0, 0), -2);
        }
        for (int bend : new int[] {3, 7, 8, FAR, -1, FAR_BELOW}) {
            Bounds.refused("of three bends, " + bend, Bounds::midway, x -> x.note(0, bend, 0), -2);
        }
        for (int sort : new int[] {3, 4, 5, FAR, -1, FAR_BELOW}) {
            Bounds.refused("of three sorts, " + sort, Bounds::midway, x -> x.note(0, 0, sort), -2);
        }
        Bounds.refused("an eleventh", () -> withNotes(10), x -> x.note(0, 0, 1), -2);
        Bounds.is("a tenth", withNotes(9).note(0, 0, 0), 10);
        Bounds.refused("of eight bends, 8", () -> Checks.on(EIGHT), x -> x.note(0, 8, 0), -2);
        Bounds.refused("no bends", () -> Checks.on("hill 9;sort 1 1 1"), x -> x.note(0, 0, 0), -2);
        Bounds.refused("without a hill", HillBends::new, x -> x.note(0, 0, 0), -2);
    }

    /** Six rules: from night 1 on bends above the rule's number ask for their first. By none all turn each night. */
    private static HillBends onSixRules() {
        HillBends x = Checks.on(EIGHT);
        for (int rule = 0; rule < 6; rule++) {
            Checks.rule(x, "ask bend - " + rule);
        }
        return x;
    }

    private static void ruled(String what, HillBends x, int many, int first) {
        Bounds.is(what + ": how many", x.ruled(0), many);
        Bounds.is(what + ": the first", x.ruled(1), first);
    }

    private static void ruled() {
        Bounds.promise(31, "RULED what 0: how many, 1: the first (NONE: none; -2: there is none such).");
        ruled("no rules", Checks.on(EIGHT), 1, NONE);
        ruled("no bends", Checks.on("hill 9"), 1, NONE);
        ruled("six", onSixRules(), 7, NONE);
        for (int rule = 0; rule < 6; rule++) {
            HillBends x = onSixRules();
            x.note(1, rule + 1, 0);
            ruled("up to " + rule, x, rule + 1, 0);
            x.note(1, rule, 1);
            ruled(rule + " alone", x, 1, rule);
            x.note(1, 0, 0);
            ruled("none such", x, 0, -2);
        }
        HillBends y = onSixRules();
        y.note(1, 7, 1);
        ruled("none alone", y, 1, NONE);
        HillBends z = Checks.on(EIGHT);
        z.note(1, 0, 0);
        ruled("no rules, and not by none", z, 0, -2);
        Bounds.promise(31, "-3 for others, or without a HILL.");
        for (int what : new int[] {2, 3, FAR, -1, -2, FAR_BELOW}) {
            Bounds.refused("what " + what, Bounds::midway, x -> x.ruled(what), -3);
        }
        Bounds.refused("without a hill", HillBends::new, x -> x.ruled(0), -3);
        Bounds.refused("without a hill", HillBends::new, x -> x.ruled(1), -3);
    }

    private static void ruledByNotes() {
        Bounds.term("NOTES 0 to 9, told: in the n-th NIGHT of all (0 to 60), at its begin, a BEND ASKED for a SORT.");
        HillBends x = Checks.on(EIGHT);
        Checks.rule(x, "ask 1 if night = 0 or night = 59");
        Checks.rule(x, "ask 1 if night = 58");
        Checks.rule(x, "ask 1 if night = 60");
        x.note(0, 0, 0);
        ruled("all ask for their first at first", x, 4, NONE);
        x.note(60, 0, 0);
        ruled("none and 0", x, 2, NONE);
        x.note(59, 0, 1);
        ruled("none and 0", x, 2, NONE);
        x.note(2, 0, 1);
        ruled("0 alone", x, 1, 0);
        x.note(NONE, 0, 0);
        x.note(59, 0, 0);
        ruled("1 alone", x, 1, 1);
        HillBends y = Checks.on(EIGHT);
        Checks.rule(y, "ask 1");
        for (int n = 0; n < 9; n++) {
            y.note(0, n % 8, 0);
        }
        ruled("nine that tell nothing", y, 2, NONE);
        y.note(1, 0, 0);
        ruled("the tenth does", y, 1, 0);
        Bounds.term("RULED: which of the RULES, and of none, so that from the begin on, all as the text told it (nobody climbs), "
                + "all NOTES are so: how many; the first (none ahead of 0, told as NONE).");
        HillBends z = Checks.on(EIGHT + ";has 0 0 4;heap 0 0 2");
        Checks.rule(z, "ask ones - 1");
        Checks.rule(z, "ask here - 1");
        Checks.rule(z, "ask passed");
        z.force(2);
        z.climb(0);
        z.climb(0);
        z.night();
        z.night();
        z.note(1, 0, 0);
        ruled("by two that lie there", z, 1, 0);
        z.note(2, 1, 1);
        ruled("and none elsewhere", z, 1, 0);
    }

    private static void look(String what, HillBends x, int n, int bend, int many) {
        Bounds.is(what + ": the bend", x.look(n, 0), bend);
        Bounds.is(what + ": how many", x.look(n, 1), many);
    }

    private static void look() {
        Bounds.promise(32, "LOOK at the n-th NIGHT (0 to 60) what 0: the BEND, 1: how many; -2: no RULE is so, or there are no "
                + "BENDS.");
        look("at the begin all are alike", onSixRules(), 0, 0, 7);
        look("3 of 7 part from 4", onSixRules(), 1, 3, 4);
        look("an even night", onSixRules(), 2, 2, 4);
        look("the last night", onSixRules(), 60, 2, 4);
        look("the last but one", onSixRules(), 59, 3, 4);
        Bounds.term("LOOK at the n-th NIGHT: the BEND by what it ASKS for these part best: the most alike are fewest, of several "
                + "the least; how many.");
        HillBends x = onSixRules();
        x.note(1, 6, 0);
        x.note(1, 4, 1);
        look("two that are so", x, 1, 5, 1);
        x.note(1, 5, 1);
        look("one that is so", x, 1, 0, 1);
        x.note(1, 5, 0);
        look("none is so", x, 1, -2, -2);
        look("none is so at the begin", x, 0, -2, -2);
        look("no bends", Checks.on("hill 9;sort 1 1 1"), 0, -2, -2);
        look("no bends at the last night", Checks.on("hill 9;sort 1 1 1"), 60, -2, -2);
        look("by none alone", Checks.on(EIGHT), 60, 0, 1);
        HillBends y = Checks.on("hill 9;sort 1 1 1;sort 1 1 1;bend 0 0;bend 0 1");
        Checks.rule(y, "ask 1");
        look("alike ones part nothing", y, 1, 1, 1);
    }

    private static void lookNot() {
        Bounds.promise(32, "NONE without these, or a HILL.");
        for (int n : new int[] {61, 62, FAR, -1, -2, FAR_BELOW}) {
            Bounds.refused("night " + n, Bounds::midway, x -> x.look(n, 0), NONE);
            Bounds.is("no bends, night " + n, Checks.on("hill 9").look(n, 1), NONE);
        }
        for (int what : new int[] {2, 3, FAR, -1, -2, FAR_BELOW}) {
            Bounds.refused("what " + what, Bounds::midway, x -> x.look(0, what), NONE);
            Bounds.is("no bends, what " + what, Checks.on("hill 9").look(0, what), NONE);
        }
        Bounds.refused("without a hill", HillBends::new, x -> x.look(0, 0), NONE);
    }

    // ---- draws

    private static void seed() {
        Bounds.promise(33, "x becomes a number: what it was;");
        HillBends x = new HillBends();
        Bounds.is("0 at first", x.seed(0), 0);
        Bounds.is("0 was", x.seed(FAR), 0);
        Bounds.is("the most", x.count(12), FAR);
        Bounds.is("the most was", x.seed(1), FAR);
        Bounds.is("1 was", x.seed(0), 1);
        Bounds.promise(33, "NONE, and nothing happens, below 0.");
        for (int n : new int[] {-1, -2, FAR_BELOW}) {
            Bounds.refused("x " + n, Bounds::midway, y -> y.seed(n), NONE);
            Bounds.refused("without a hill, x " + n, HillBends::new, y -> y.seed(n), NONE);
        }
    }

    /** Heights and things by draws, of pilgrims with so many things each, at bends that all ask for these. */
    private static int[] drawn(long seed, int pilgrims, int bends, int had, int m, int n) {
        long x = seed;
        int[] sums = new int[2];
        for (int year = 0; year < m; year++) {
            int[] height = new int[pilgrims];
            int[] has = new int[pilgrims];
            java.util.Arrays.fill(has, had);
            for (int i = 0; i < n * pilgrims; i++) {
                int who = i % pilgrims;
                x = (x * 1103515245L + 12345L) % 2147483648L;
                if (x / 65536 % 4 == 0) {
                    height[who] -= height[who] > 0 ? 1 : 0;
                } else if (height[who] < bends && has[who] > 0) {
                    height[who]++;
                    has[who]--;
                    sums[1]++;
                }
            }
            for (int h : height) {
                sums[0] += h;
            }
        }
        return sums;
    }

    private static String drawing(int pilgrims, int bends, int had) {
        StringBuilder text = new StringBuilder("hill 40;sort 1 1 1" + ";bend 0 0".repeat(bends) + ";pilgrim 0".repeat(pilgrims));
        for (int who = 0; who < pilgrims; who++) {
            for (int n = had; n > 0; n -= 4) {
                text.append(";has ").append(who).append(" 0 ").append(Math.min(4, n));
            }
        }
        return text.toString();
    }

    private static void draws() {
        Bounds.term("DRAWS: x (0 to 2147483647; 0 at first) becomes x * 1103515245 + 12345, of 2147483648 the rest; a DRAW is x "
                + "/ 65536.");
        for (int seed : new int[] {0, 1, 65535, 65536, 1073741824, FAR - 1, FAR}) {
            HillBends x = Checks.on(drawing(2, 8, 9));
            x.seed(seed);
            for (int n = 1; n <= 60; n += n < 20 ? 1 : 10) {
                int[] due = drawn(seed, 2, 8, 9, 1, n);
                Bounds.is("heights from " + seed + " by " + n, x.years(1, n, 0), due[0]);
                Bounds.is("things from " + seed + " by " + n, x.years(1, n, 1), due[1]);
            }
            Bounds.is("x as it was", x.count(12), seed);
        }
    }

    private static void years() {
        Bounds.promise(34, "YEARS what 0: HEIGHTS, 1: things.");
        // Of the draws from 2 on the rests by 4 are 0 1 3, 2 1 3, 0 1 2: three times three nights, each from height 2 on.
        HillBends two = Checks.on(drawing(1, 8, 9));
        two.seed(2);
        two.climb(0);
        two.climb(0);
        int[][] byHand = {{1, 1, 1, 0}, {1, 2, 2, 1}, {1, 3, 3, 2}, {2, 3, 3 + 5, 2 + 3}, {3, 3, 3 + 5 + 3, 2 + 3 + 2}};
        for (int[] row : byHand) {
            Bounds.is(row[0] + " times " + row[1] + " by hand: heights", two.years(row[0], row[1], 0), row[2]);
            Bounds.is(row[0] + " times " + row[1] + " by hand: things", two.years(row[0], row[1], 1), row[3]);
        }
        Bounds.term("YEARS m times (1 to 10) n NIGHTS (1 to 60) from now on:");
        int[][] rows = {{1, 1}, {10, 1}, {1, 60}, {10, 60}, {9, 59}, {2, 2}};
        int[][] hills = {{1, 1, 9}, {4, 8, 9}, {3, 8, 0}, {2, 0, 4}, {4, 2, 3}, {1, 8, 1}};
        for (int[] hill : hills) {
            for (int[] row : rows) {
                HillBends x = Checks.on(drawing(hill[0], hill[1], hill[2]));
                int[] due = drawn(0, hill[0], hill[1], hill[2], row[0], row[1]);
                Bounds.is(row[0] + " times " + row[1] + ": heights", x.years(row[0], row[1], 0), due[0]);
                Bounds.is(row[0] + " times " + row[1] + ": things", x.years(row[0], row[1], 1), due[1]);
            }
        }
        Bounds.is("nobody", Checks.on("hill 9;sort 1 1 1;bend 0 0").years(10, 60, 0), 0);
        Bounds.is("nobody", Checks.on("hill 9;sort 1 1 1;bend 0 0").years(10, 60, 1), 0);
        Bounds.term("HEIGHTS at the end; things LEFT, all together (nothing stays; x as it was).");
        Bounds.unchanged("the least", Bounds::midway, x -> x.years(1, 1, 1));
        Bounds.unchanged("the most", Bounds::midway, x -> x.years(10, 60, 1));
    }

    /** One pilgrim, at bends that ask for sort 0 in nights of which a number has no rest, else for sort 1. */
    private static int[] drawnAtNights(int seed, int firstNight, int number, int n) {
        long x = seed;
        int height = 0;
        int[] has = {4, 4};
        int things = 0;
        for (int night = firstNight; night < firstNight + n; night++) {
            x = (x * 1103515245L + 12345L) % 2147483648L;
            int asked = night % number == 0 ? 0 : 1;
            if (x / 65536 % 4 == 0) {
                height = Math.max(0, height - 1);
            } else if (height < 8 && has[asked] > 0) {
                height++;
                has[asked]--;
                things++;
            }
        }
        return new int[] {height, things};
    }

    private static void yearsOfNights() {
        Bounds.term("ahead of each, of each PILGRIM, by numbers, a DRAW mod 4: 0: they go DOWN, if they can; else they CLIMB, if "
                + "they can; then the NIGHT:");
        for (int seed = 0; seed < 20; seed++) {
            HillBends x = Checks.on(EIGHT + ";has 0 0 4;has 0 1 4");
            x.seed(seed);
            Checks.rule(x, "ask 1 if night % 3 = 2");
            for (int n = 1; n <= 12; n++) {
                x.force(NONE);
                int[] due = drawnAtNights(seed, 0, 2, n);
                Bounds.is("without a rule, heights from " + seed + " by " + n, x.years(1, n, 0), due[0]);
                Bounds.is("without a rule, things from " + seed + " by " + n, x.years(1, n, 1), due[1]);
                x.force(0);
                int[] ruled = drawnAtNights(seed, 0, 3, n);
                Bounds.is("by a rule, heights from " + seed + " by " + n, x.years(1, n, 0), ruled[0]);
                Bounds.is("by a rule, things from " + seed + " by " + n, x.years(1, n, 1), ruled[1]);
            }
            x.night();
            x.night();
            x.night();
            x.night();
            Bounds.is("from now on, heights from " + seed, x.years(1, 9, 0), drawnAtNights(seed, 4, 3, 9)[0]);
        }
    }

    private static void yearsNot() {
        Bounds.promise(34, "NONE without these, or a HILL.");
        for (int m : new int[] {0, -1, 11, 12, FAR, FAR_BELOW}) {
            Bounds.refused(m + " times", Bounds::midway, x -> x.years(m, 1, 0), NONE);
        }
        for (int n : new int[] {0, -1, 61, 62, FAR, FAR_BELOW}) {
            Bounds.refused(n + " nights", Bounds::midway, x -> x.years(1, n, 0), NONE);
        }
        for (int what : new int[] {-1, -2, 2, 3, FAR, FAR_BELOW}) {
            Bounds.refused("what " + what, Bounds::midway, x -> x.years(1, 1, what), NONE);
        }
        Bounds.refused("without a hill", HillBends::new, x -> x.years(1, 1, 0), NONE);
        Bounds.refused("without a hill", HillBends::new, x -> x.years(10, 60, 1), NONE);
    }

    // ---- counts

    private static void count(String what, HillBends x, int... due) {
        for (int i = 0; i < due.length; i++) {
            Bounds.is(what + ", " + i, x.count(i), due[i]);
        }
    }

    private static void count() {
        Bounds.promise(35, "What 0: BURDEN, 1: SORTS, 2: BENDS, 3: PILGRIMS, 4: RULES, 5: the RULE IN FORCE (NONE), 6: NIGHT, 7: "
                + "BENDS that ASK for their SECOND and not their FIRST (which is another SORT), as bits, 8: who is at the top, "
                + "as bits, "
                + "9: things that lie in heaps, 10: NOTES, 11: ACTS that can be UNDONE, 12: x, 13: bytes of the TAPE.");
        count("nothing", new HillBends(), 0, 0, 0, 0, 0, NONE, 0, 0, 0, 0, 0, 0, 0, 0);
        count("the least hill", Checks.on("hill 1"), 1, 0, 0, 0, 0, NONE, 0, 0, 0, 0, 0, 0, 0, 0);
        HillBends x = Checks.on("hill 40" + ";sort 1 1 1".repeat(5) + ";bend 0 1".repeat(7) + ";bend 1 1" + ";pilgrim 0".repeat(4)
                + ";heap 0 0 9;heap 7 4 9");
        for (int rule = 0; rule < 6; rule++) {
            Checks.rule(x, "ask 0");
        }
        x.force(5);
        x.seed(FAR);
        for (int n = 0; n < 10; n++) {
            x.note(0, 0, 0);
        }
        for (int n = 0; n < 21; n++) {
            x.night();
        }
        for (int n = 0; n < 20; n++) {
            x.feed(0, 0, 0, 0, 0);
        }
        count("the most", x, 40, 5, 8, 4, 6, 5, 21, 0b01111111, 0, 18, 10, 20, FAR, 400);
        count("all at the top of no bends", Checks.on("hill 9;pilgrim 0;pilgrim 0;pilgrim 0;pilgrim 0"), 9, 0, 0, 4, 0, NONE, 0, 0, 0b1111);
        HillBends y = Checks.on("hill 9;sort 1 1 1;bend 0 0;pilgrim 0;pilgrim 0;has 1 0 1");
        Bounds.is("nobody is at the top", y.count(8), 0);
        y.climb(1);
        Bounds.is("one is", y.count(8), 0b10);
        Bounds.is("one thing lies there", y.count(9), 1);
        Bounds.promise(35, "NONE for others.");
        for (int what : new int[] {14, 15, FAR, -1, FAR_BELOW}) {
            Bounds.refused("what " + what, Bounds::midway, z -> z.count(what), NONE);
            Bounds.is("without a hill, what " + what, new HillBends().count(what), NONE);
        }
    }

    // ---- images

    private static void image() {
        Bounds.promise(36, "An IMAGE is made: NIGHT; NONE without it.");
        HillBends x = Checks.on(EIGHT);
        for (int k = 0; k < 4; k++) {
            Bounds.is("image " + k, x.image(k), k);
            x.night();
        }
        Bounds.is("no act", x.count(11), 4);
        for (int k = 3; k >= 0; k--) {
            Bounds.is("back to " + k, x.back(k), k);
            Bounds.is("night", x.count(6), k);
            Bounds.is("asks", x.count(7), k % 2 * 255);
        }
        for (int k : new int[] {4, 5, FAR, -1, FAR_BELOW}) {
            Bounds.refused("image " + k, Bounds::midway, y -> y.image(k), NONE);
            Bounds.refused("without a hill, image " + k, HillBends::new, y -> y.image(k), NONE);
        }
        Bounds.is("without a hill", new HillBends().image(0), 0);
        HillBends z = Bounds.midway();
        Bounds.is("one in place of another", z.image(1), 1);
        z.night();
        Bounds.is("back to it", z.back(1), 1);
        Bounds.is("not to the other", z.pilgrim(0, 0), 1);
    }

    private static void imageOfAll() {
        Bounds.term("IMAGES 0 to 3: all but the TAPE and the RULES, as it is (the RULE IN FORCE, what was TOLD to be left, too);");
        HillBends x = Bounds.midway();
        x.take(0, 1);
        x.image(0);
        x.end(0);
        Checks.hill(x, "hill 40;sort 9 9 9;bend 0 0;pilgrim 0;pilgrim 1;pilgrim 2;pilgrim 3;has 0 0 1;heap 0 0 9");
        x.force(NONE);
        x.seed(99);
        x.leaves(0, 9);
        x.note(0, 0, 0);
        x.note(0, 0, 0);
        x.climb(0);
        Checks.rule(x, "ask 3");
        x.feed(0, 0, 0, 0, 0);
        Bounds.is("back", x.back(0), 1);
        count("all", x, 10, 3, 3, 2, 3, 1, 1, 0b101, 0, 2, 1, 0, 7, 20);
        int[] first = {1, 19, 1, 1, 4, 0, 1, 1, 0, 0};
        int[] second = {0, 5, 0, 0, 5, 0, 1, 2, 0, 0};
        for (int what = 0; what < 10; what++) {
            Bounds.is("pilgrim 0, " + what, x.pilgrim(0, what), first[what]);
            Bounds.is("pilgrim 1, " + what, x.pilgrim(1, what), second[what]);
        }
        int[] bend = {0, 1, 1, 1, 1, 0, 0, 0};
        for (int what = 0; what < 8; what++) {
            Bounds.is("bend 0, " + what, x.bend(0, what), bend[what]);
        }
        Bounds.is("sort", x.sort(0, 0), 2);
        Bounds.is("ruled", x.ruled(0), 2);
        Bounds.is("the first", x.ruled(1), 0);
        Bounds.is("told of 0", x.leaves(0, 0), 1);
        Bounds.is("told of 1", x.leaves(1, 0), 1);
        Bounds.is("told of 2", x.leaves(2, 0), 0);
    }

    private static void back() {
        Bounds.term("gone back to, it is as it was (these stay; nothing can be UNDONE then).");
        HillBends x = Bounds.midway();
        Bounds.is("acts", x.count(11), 3);
        Bounds.is("back", x.back(1), 0);
        Bounds.is("no acts", x.count(11), 0);
        Bounds.is("undo", x.undo(), NONE);
        Bounds.is("the tape stays", x.count(13), 26);
        Bounds.is("rules stay", x.count(4), 2);
        Bounds.is("force of the image", x.count(5), NONE);
        Bounds.is("height", x.pilgrim(0, 0), 0);
        Bounds.is("money", x.pilgrim(0, 1), 19);
        Bounds.promise(37, "All is as in an IMAGE: NIGHT;");
        x.night();
        Bounds.is("an act", x.count(11), 1);
        x.sell(0, 2);
        Bounds.is("again", x.back(1), 0);
        Bounds.is("it is as it was made", x.pilgrim(0, 7), 1);
        Bounds.is("no acts again", x.count(11), 0);
        Bounds.is("the tape is a hill", x.hill(), 1);
        Bounds.is("from another hill", x.back(1), 0);
        Bounds.is("bends", x.count(2), 3);
        backToNotes();
        HillBends y = new HillBends();
        y.seed(3);
        y.image(3);
        Checks.hill(y, EIGHT);
        y.seed(4);
        y.night();
        Bounds.is("to no hill", y.back(3), 0);
        count("no hill", y, 0, 0, 0, 0, 0, NONE, 0, 0, 0, 0, 0, 0, 3, 0);
        Bounds.is("no hill", y.night(), NONE);
    }

    private static void backToNotes() {
        HillBends x = onSixRules();
        x.note(1, 5, 0);
        x.note(1, 4, 1);
        x.image(2);
        ruled("4 alone", x, 1, 4);
        x.note(NONE, 0, 0);
        x.note(2, 3, 0);
        x.note(0, 2, 0);
        x.note(1, 3, 0);
        ruled("others", x, 3, 0);
        x.back(2);
        ruled("4 alone again", x, 1, 4);
        x.note(1, 4, 0);
        ruled("none", x, 0, -2);
        x.back(2);
        ruled("4 alone once more", x, 1, 4);
        Checks.hill(x, "hill 9;sort 1 1 1;sort 1 1 1;bend 1 0;bend 0 1");
        x.note(1, 0, 0);
        ruled("on another hill", x, 7, NONE);
        x.back(2);
        ruled("and back", x, 1, 4);
    }

    private static void backIsRefused() {
        Bounds.promise(37, "NONE, and nothing happens, if it was never made, or without it.");
        for (int k : new int[] {0, 2, 3}) {
            Bounds.refused("never made: " + k, Bounds::midway, x -> x.back(k), NONE);
        }
        for (int k : new int[] {4, 5, 32, 33, FAR, -1, -31, FAR_BELOW}) {
            Bounds.refused("none such: " + k, Bounds::midway, x -> x.back(k), NONE);
        }
        for (int k = 0; k < 4; k++) {
            int number = k;
            Bounds.refused("of a new object, " + k, HillBends::new, x -> x.back(number), NONE);
        }
    }
}
