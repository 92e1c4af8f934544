/** Boundary sentences of part III of the terms and of promises 18 to 27: what is asked of pilgrims. */
public final class AskBoundsTests {
    private static final int NONE = HillBends.NONE;
    private static final int FAR = Integer.MAX_VALUE;
    private static final int FAR_BELOW = Integer.MIN_VALUE;
    /** Eight bends that ask for sort 0 or for sort 1, of which the first is dear. */
    private static final String EIGHT = "hill 40;sort 1 1 30;sort 1 1 1" + ";bend 0 1".repeat(8) + ";pilgrim 0";
    private static final String EIGHT_ALIKE = "hill 40;sort 1 1 1" + ";bend 0 0".repeat(8) + ";pilgrim 0";

    private AskBoundsTests() {
    }

    public static void main(String[] args) {
        reach();
        lacks();
        ways();
        sure();
        bag();
        bagOfSeveral();
        bagIsRefused();
        both();
        partner();
        downwards();
        downwardsAsActsLet();
        downwardsOfAllThatCanBeCarried();
        downwardsOfSeveral();
        less();
        rich();
        theLastOfEach();
        nothingChanges();
        Bounds.close("AskBoundsTests", 18, 27);
    }

    /** A text's first pilgrim has so many things of two sorts. */
    private static String having(String text, int ofFirst, int ofSecond) {
        StringBuilder more = new StringBuilder(text);
        int[] many = {ofFirst, ofSecond};
        for (int sort = 0; sort < 2; sort++) {
            for (int n = many[sort]; n > 0; n -= 4) {
                more.append(";has 0 ").append(sort).append(' ').append(Math.min(4, n));
            }
        }
        return more.toString();
    }

    private static HillBends climbed(String text, int times) {
        HillBends x = Checks.on(text);
        for (int i = 0; i < times; i++) {
            x.climb(0);
        }
        return x;
    }

    /** Of a pilgrim, asked for each sort and for NONE: no pilgrim, or no such sort. */
    private interface Asked {
        int of(HillBends x, int pilgrim, int what);
    }

    private static void withoutThese(Asked asked, int due) {
        for (int pilgrim : new int[] {2, 3, 4, FAR, -1, FAR_BELOW}) {
            Bounds.refused("of two, " + pilgrim, Bounds::midway, x -> asked.of(x, pilgrim, NONE), due);
        }
        for (int what : new int[] {3, 4, 5, FAR, -2, FAR_BELOW}) {
            Bounds.refused("of three sorts, " + what, Bounds::midway, x -> asked.of(x, 1, what), due);
        }
        Bounds.is("of no sorts, 0", asked.of(Checks.on("hill 9;pilgrim 0"), 0, 0), due);
        Bounds.is("of no pilgrims, 0", asked.of(Checks.on("hill 9;sort 1 1 1"), 0, 0), due);
        Bounds.is("without a hill", asked.of(new HillBends(), 0, NONE), due);
    }

    private static void reach() {
        Bounds.promise(18, "REACH what NONE: HEIGHT, else how many of that SORT.");
        for (int had = 0; had <= 9; had++) {
            HillBends x = Checks.on(having(EIGHT, had, 2));
            Bounds.is("with " + had, x.reach(0, NONE), Math.min(8, had));
            Bounds.is("then they have of it", x.reach(0, 0), Math.max(0, had - 8));
            Bounds.is("and of the other", x.reach(0, 1), 2);
        }
        Bounds.term("REACH of a PILGRIM: how high they come, as BENDS ASK now, with what they have, from where they are; how "
                + "many of a SORT they have then.");
        HillBends y = climbed(having(EIGHT, 9, 0), 8);
        Bounds.is("at the top", y.reach(0, NONE), 8);
        Bounds.is("with what they have", y.reach(0, 0), 1);
        HillBends z = climbed(having(EIGHT, 5, 0), 3);
        Bounds.is("from where they are", z.reach(0, NONE), 5);
        z.night();
        Bounds.is("as they ask now", z.reach(0, NONE), 3);
        Bounds.is("no bends", Checks.on("hill 9;pilgrim 0").reach(0, NONE), 0);
        Bounds.promise(18, "-2 without these.");
        withoutThese(HillBends::reach, -2);
    }

    private static void lacks() {
        Bounds.promise(19, "LACKS what NONE: PRICE, else how many of that SORT.");
        for (int had = 0; had <= 9; had++) {
            HillBends x = Checks.on(having(EIGHT, had, 1));
            int lacking = Math.max(0, 8 - had);
            Bounds.is("with " + had, x.lacks(0, 0), lacking);
            Bounds.is("price", x.lacks(0, NONE), 30 * lacking);
            Bounds.is("of the other", x.lacks(0, 1), 0);
            x.night();
            Bounds.is("then of the other", x.lacks(0, 1), 7);
            Bounds.is("then price", x.lacks(0, NONE), 7);
        }
        Bounds.term("LACKS: what they would have to have more to come to the top, as BENDS ASK now: how many of a SORT; the "
                + "PRICE of all these.");
        HillBends y = climbed(having(EIGHT, 8, 0), 8);
        Bounds.is("at the top", y.lacks(0, NONE), 0);
        Bounds.is("at the top, of a sort", y.lacks(0, 0), 0);
        Bounds.is("ahead of them alone", climbed(having(EIGHT, 3, 0), 3).lacks(0, 0), 5);
        Bounds.is("the last bend", climbed(having(EIGHT, 7, 0), 7).lacks(0, NONE), 30);
        Bounds.is("no bends", Checks.on("hill 9;pilgrim 0").lacks(0, NONE), 0);
        Bounds.promise(19, "-2 without these.");
        withoutThese(HillBends::lacks, -2);
    }

    private static void ways() {
        Bounds.promise(20, "WAYS; NONE without that PILGRIM.");
        int[][] due = {{8, 0, 1}, {7, 0, 0}, {0, 8, 1}, {7, 1, 8}, {4, 4, 70}, {4, 3, 0}, {8, 8, 256}, {9, 9, 256},
            {7, 8, 255}, {8, 7, 255}, {7, 7, 254}, {0, 0, 0}};
        for (int[] d : due) {
            Bounds.is("with " + d[0] + " and " + d[1], Checks.on(having(EIGHT, d[0], d[1])).ways(0), d[2]);
        }
        for (int pilgrim : new int[] {2, 4, FAR, -1, FAR_BELOW}) {
            Bounds.refused("of two, " + pilgrim, Bounds::midway, x -> x.ways(pilgrim), NONE);
        }
        Bounds.is("without a hill", new HillBends().ways(0), NONE);
        Bounds.term("WAYS of a PILGRIM: of all ways in which the BENDS ahead of them can ASK (FIRST or SECOND, each; 2 to the "
                + "power of these BENDS; alike ones count as two, too) by how many they come to the top.");
        for (int height = 0; height <= 8; height++) {
            Bounds.is("alike ones, from " + height, climbed(having(EIGHT_ALIKE, 8, 0), height).ways(0), 256 >> height);
        }
        Bounds.is("one short", Checks.on(having(EIGHT_ALIKE, 7, 0)).ways(0), 0);
        Bounds.is("no bends", Checks.on("hill 9;pilgrim 0").ways(0), 1);
        HillBends x = Checks.on(having(EIGHT, 7, 1));
        x.night();
        Bounds.is("not only as they ask now", x.ways(0), 8);
    }

    private static void sure() {
        Bounds.promise(21, "SURE what NONE: PRICE, else how many of that SORT.");
        for (int had = 0; had <= 9; had++) {
            HillBends x = Checks.on(having(EIGHT, had, 8));
            int lacking = Math.max(0, 8 - had);
            Bounds.is("with " + had, x.sure(0, 0), lacking);
            Bounds.is("of the other", x.sure(0, 1), 0);
            Bounds.is("price", x.sure(0, NONE), 30 * lacking);
        }
        Bounds.is("price of all", Checks.on(EIGHT).sure(0, NONE), 248);
        HillBends top = climbed(having(EIGHT, 8, 0), 8);
        Bounds.is("at the top", top.sure(0, NONE), 0);
        Bounds.is("at the top, of a sort", top.sure(0, 1), 0);
        Bounds.is("the last bend", climbed(having(EIGHT, 7, 0), 7).sure(0, NONE), 31);
        Bounds.is("no bends", Checks.on("hill 9;pilgrim 0").sure(0, NONE), 0);
        Bounds.term("SURE: likewise as LACKS, so that they come up by all these ways: the fewest of each SORT (which is how many "
                + "of the BENDS ahead can ASK for it, less what they have).");
        Bounds.is("a bend can ask for one twice", Checks.on(EIGHT_ALIKE).sure(0, 0), 8);
        HillBends y = Checks.on(having(EIGHT, 8, 8));
        Bounds.is("enough is sure", y.sure(0, NONE), 0);
        Bounds.is("by all ways", y.ways(0), 256);
        Bounds.promise(21, "-2 without these.");
        withoutThese(HillBends::sure, -2);
    }

    // ---- the bag

    private static void bag(String what, String text, int... due) {
        HillBends x = Checks.on(text);
        Bounds.is(what + ": ways", x.bag(0, NONE), due[0]);
        Bounds.is(what + ": price", x.bag(0, -2), due[1]);
        for (int sort = 0; sort < due.length - 2; sort++) {
            Bounds.is(what + ": of " + sort, x.bag(0, sort), due[2 + sort]);
        }
        Bounds.is(what + ": ways, asked again", x.bag(0, NONE), due[0]);
        for (int sort = 0; sort < due.length - 2; sort++) {
            for (int n = 0; n < due[2 + sort]; n++) {
                Bounds.is(what + ": it can be bought", x.buy(0, sort) >= 0 ? 1 : 0, 1);
            }
        }
        Bounds.is(what + ": with it", x.ways(0), due[0]);
    }

    private static void bag() {
        Bounds.promise(22, "BAG what NONE: WAYS, -2: PRICE, else how many of that SORT.");
        String three = ";bend 0 0;bend 0 0;bend 0 0;pilgrim ";
        bag("three", "hill 9;sort 1 1 1" + three + "3", 8, 3, 3);
        bag("for all money", "hill 9;sort 1 1 30" + three + "90", 8, 90, 3);
        bag("one short", "hill 9;sort 1 1 30" + three + "89", 0, 0, 0);
        bag("as heavy as can be", "hill 9;sort 3 1 1" + three + "9", 8, 3, 3);
        bag("too heavy by one", "hill 8;sort 3 1 1" + three + "9", 0, 0, 0);
        bag("one is had", "hill 8;sort 2 1 1" + three + "9;has 0 0 1", 8, 2, 2);
        bag("all are had", "hill 8;sort 2 1 1" + three + "9;has 0 0 3", 8, 0, 0);
        bag("another is had", "hill 9;sort 2 1 1;sort 3 1 1" + three + "9;has 0 1 1", 8, 3, 3, 0);
        bag("another is too heavy", "hill 8;sort 2 1 1;sort 3 1 1" + three + "9;has 0 1 1", 0, 0, 0, 0);
        Bounds.term("BAG of a PILGRIM at the foot: how many of each SORT to BUY (0 to 3 each), so that it can be, one behind the "
                + "other,");
        bag("a fourth", "hill 9;sort 1 1 1;bend 0 0" + three + "99", 0, 0, 0);
        String second = "hill 9;sort 1 1 1;sort 1 1 1;bend 1 1;bend 1 1;bend 1 1;bend 1 1;pilgrim 9";
        bag("a fourth of the second", second, 0, 0, 0, 0);
        bag("eight of the second", second.replace(";pilgrim", ";bend 1 1".repeat(4) + ";pilgrim"), 0, 0, 0, 0);
        bag("a fourth of the second is had", second + ";has 0 1 1", 16, 3, 0, 3);
        bag("a fourth is had", "hill 9;sort 1 1 1;bend 0 0" + three + "99;has 0 0 1", 16, 3, 3);
        bag("three of each of two", "hill 9;sort 1 1 1;sort 1 1 2" + three.replace("0 0", "0 1") + "99", 8, 9, 3, 3);
        bag("two sorts and two more", "hill 9;sort 1 1 1;sort 1 1 1;sort 1 1 1;bend 1 1;bend 1 1;bend 1 1;bend 2 2;bend 2 2"
                + three + "99", 256, 8, 3, 3, 2);
        bag("five sorts", "hill 9" + ";sort 1 1 2".repeat(5) + ";bend 0 0;bend 1 1;bend 2 2;bend 3 3;bend 4 4;bend 4 4;bend 4 4;pilgrim 14",
                128, 14, 1, 1, 1, 1, 3);
        bag("nothing at all", "hill 9;pilgrim 9", 1, 0);
        bag("no bends", "hill 9;sort 1 1 1;pilgrim 9", 1, 0, 0);
        bag("no money", "hill 9;sort 1 1 1;bend 0 0;pilgrim 0", 0, 0, 0);
        bag("nine are had of another", "hill 40;sort 1 1 1;sort 1 1 1;bend 0 1;pilgrim 9;has 0 1 4;has 0 1 4;has 0 1 1", 2, 1, 1, 0);
    }

    private static void bagOfSeveral() {
        Bounds.term("and WAYS are most then; of several the least PRICE, then the first row (by SORTS, how many, the first SORT "
                + "first): WAYS; PRICE; of a SORT.");
        String two = ";bend 0 1;bend 0 1;pilgrim ";
        bag("one thing brings nobody up two", "hill 9;sort 1 1 1;sort 1 1 1" + two + "1", 0, 0, 0, 0);
        bag("two", "hill 9;sort 1 1 1;sort 1 1 1" + two + "2", 2, 2, 1, 1);
        bag("three, the first row", "hill 9;sort 1 1 1;sort 1 1 1" + two + "3", 3, 3, 1, 2);
        bag("four", "hill 9;sort 1 1 1;sort 1 1 1" + two + "9", 4, 4, 2, 2);
        bag("three, the least price", "hill 9;sort 1 1 1;sort 1 1 2" + two + "5", 3, 4, 2, 1);
        bag("three, the least price otherwise", "hill 9;sort 1 1 2;sort 1 1 1" + two + "5", 3, 4, 1, 2);
        bag("the last of three sorts", "hill 9;sort 1 1 1;sort 1 1 1;sort 1 1 1;bend 0 2;pilgrim 1", 1, 1, 0, 0, 1);
        bag("most ways, though dear", "hill 9;sort 1 1 1;sort 1 1 30;bend 0 1;pilgrim 31", 2, 31, 1, 1);
        bag("one money less", "hill 9;sort 1 1 1;sort 1 1 30;bend 0 1;pilgrim 30", 1, 1, 1, 0);
    }

    private static void bagIsRefused() {
        Bounds.promise(22, "-3 without these (a PILGRIM at the foot).");
        for (int pilgrim : new int[] {2, 4, FAR, -1, FAR_BELOW}) {
            Bounds.refused("of two, " + pilgrim, Bounds::midway, x -> x.bag(pilgrim, NONE), -3);
        }
        for (int what : new int[] {3, 4, 5, FAR, -3, -4, FAR_BELOW}) {
            Bounds.refused("of three sorts, " + what, Bounds::midway, x -> x.bag(1, what), -3);
        }
        for (int what : new int[] {NONE, -2, 0}) {
            Bounds.refused("not at the foot, " + what, Bounds::midway, x -> x.bag(0, what), -3);
        }
        HillBends y = climbed(having(EIGHT, 1, 0), 1);
        y.down(0);
        Bounds.is("at the foot again", y.bag(0, NONE), 0);
        Bounds.is("of no sorts, 0", Checks.on("hill 9;pilgrim 0").bag(0, 0), -3);
        Bounds.is("without a hill", new HillBends().bag(0, -2), -3);
    }

    // ---- two pilgrims

    private static void both() {
        Bounds.promise(23, "BOTH; NONE without these (unlike, of the same HEIGHT).");
        String eight = EIGHT_ALIKE + ";pilgrim 0;has 0 0 4;has 0 0 4;has 1 0 4;has 1 0 ";
        Bounds.is("sixteen things", Checks.on(eight + "4").both(0, 1), 256);
        Bounds.is("one short", Checks.on(eight + "3").both(0, 1), 0);
        Bounds.is("one more", Checks.on(eight + "4;has 0 0 1").both(1, 0), 256);
        String four = EIGHT_ALIKE.replace(";bend 0 0".repeat(8), ";bend 0 0".repeat(4)) + ";pilgrim 0;has 0 0 4;has 0 0 4";
        Bounds.is("one has all", Checks.on(four).both(0, 1), 16);
        Bounds.is("the other has all", Checks.on(four).both(1, 0), 16);
        Bounds.refused("alike", Checks::onSmall, x -> x.both(1, 1), NONE);
        Bounds.refused("not of the same height", Bounds::midway, x -> x.both(0, 1), NONE);
        Bounds.refused("not of the same height", Bounds::midway, x -> x.both(1, 0), NONE);
        for (int other : new int[] {2, 4, FAR, -1, FAR_BELOW}) {
            Bounds.refused("of two, with " + other, Checks::onSmall, x -> x.both(0, other), NONE);
            Bounds.refused("of two, " + other, Checks::onSmall, x -> x.both(other, 0), NONE);
        }
        Bounds.is("without a hill", new HillBends().both(0, 1), NONE);
        Bounds.term("BOTH of two PILGRIMS of the same HEIGHT: by how many WAYS both come to the top, if they HAND things as they "
                + "like (what one can carry is not asked): the BENDS ASK the same of both.");
        String unlike = ";sort 1 1 1;sort 1 1 1;bend 0 1;pilgrim 0;pilgrim 0;";
        Bounds.is("nobody could carry more", Checks.on("hill 2" + unlike + "has 0 0 2;has 1 1 2").both(0, 1), 2);
        Bounds.is("of each sort one", Checks.on("hill 2" + unlike + "has 0 0 1;has 1 1 1").both(0, 1), 0);
        HillBends top = climbed("hill 9;sort 1 1 1;bend 0 0;pilgrim 0;pilgrim 0;has 0 0 1;has 1 0 1", 1);
        top.climb(1);
        Bounds.is("at the top", top.both(0, 1), 1);
        Bounds.is("no bends", Checks.on("hill 9;pilgrim 0;pilgrim 0").both(0, 1), 1);
    }

    private static void partner() {
        Bounds.promise(24, "PARTNER what 0: who, 1: how many; -2: there is nobody.");
        for (int what = 0; what < 2; what++) {
            Bounds.is("alone", Checks.on(EIGHT).partner(0, what), -2);
            Bounds.is("of no bends, alone", Checks.on("hill 9;pilgrim 0").partner(0, what), -2);
        }
        Bounds.refused("others are lower", Bounds::midway, x -> x.partner(0, 0), -2);
        Bounds.refused("others are lower", Bounds::midway, x -> x.partner(0, 1), -2);
        Bounds.refused("others are higher", Bounds::midway, x -> x.partner(1, 0), -2);
        Bounds.refused("others are higher", Bounds::midway, x -> x.partner(1, 1), -2);
        Bounds.term("PARTNER of a PILGRIM: who it is best to go with so (of the same HEIGHT): most of BOTH, of several the "
                + "least; how many.");
        HillBends x = Checks.on("hill 9;sort 1 1 1;bend 0 0;pilgrim 0;pilgrim 0;pilgrim 0;pilgrim 0;has 1 0 1;has 3 0 1");
        int[] who = {1, 3, 0, 1};
        int[] many = {0, 2, 0, 2};
        for (int pilgrim = 0; pilgrim < 4; pilgrim++) {
            Bounds.is("how many with " + pilgrim, x.partner(pilgrim, 1), many[pilgrim]);
            Bounds.is("who with " + pilgrim, x.partner(pilgrim, 0), who[pilgrim]);
        }
        Bounds.is("of several the least", Checks.on("hill 9;pilgrim 0;pilgrim 0;pilgrim 0").partner(0, 0), 1);
        Bounds.is("of several the least", Checks.on("hill 9;pilgrim 0;pilgrim 0;pilgrim 0").partner(1, 0), 0);
        Bounds.promise(24, "NONE without these.");
        for (int pilgrim : new int[] {2, 4, FAR, -1, FAR_BELOW}) {
            Bounds.refused("of two, " + pilgrim, Bounds::midway, y -> y.partner(pilgrim, 0), NONE);
        }
        for (int what : new int[] {2, 3, FAR, -1, -2, FAR_BELOW}) {
            Bounds.refused("what " + what, Checks::onSmall, y -> y.partner(0, what), NONE);
            Bounds.is("alone, what " + what, Checks.on(EIGHT).partner(0, what), NONE);
        }
        Bounds.is("without a hill", new HillBends().partner(0, 0), NONE);
    }

    // ---- coming down

    private static void downwards(String what, HillBends x, int... due) {
        Bounds.is(what + ": worth", x.downwards(0, NONE), due[0]);
        for (int sort = 0; sort < due.length - 1; sort++) {
            Bounds.is(what + ": of " + sort, x.downwards(0, sort), due[1 + sort]);
        }
    }

    private static void downwards() {
        Bounds.promise(25, "DOWNWARDS what NONE: WORTH, else how many of that SORT.");
        String text = "hill 20;sort 1 0 1;sort 1 3 1;sort 1 30 1;bend 0 0;bend 0 0;bend 0 0;pilgrim 0;has 0 0 4;heap 0 1 2;heap 1 1 1;heap 2 2 9";
        downwards("at the foot", climbed(text, 0), 0, 0, 0, 0);
        downwards("above one", climbed(text, 1), 3, 0, 1, 0);
        downwards("above two", climbed(text, 2), 6, 0, 2, 0);
        downwards("above three", climbed(text, 3), 90, 0, 0, 3);
        HillBends x = climbed(text, 3);
        x.down(0);
        downwards("coming down, all heaps below", x, 9, 0, 3, 0);
        x.down(0);
        downwards("of the lowest alone", x, 6, 0, 2, 0);
        x.down(0);
        downwards("at the foot again", x, 0, 0, 0, 0);
        downwards("nothing lies there", climbed("hill 9;sort 1 0 1;bend 0 0;pilgrim 0;has 0 0 1", 1), 0, 0);
        downwards("what was left", climbed("hill 9;sort 1 4 1;bend 0 0;pilgrim 0;has 0 0 1", 1), 4, 1);
        downwards("no bends", Checks.on("hill 9;sort 1 4 1;pilgrim 0"), 0, 0);
        Bounds.promise(25, "-2 without these.");
        withoutThese(HillBends::downwards, -2);
    }

    private static void downwardsAsActsLet() {
        Bounds.term("DOWNWARDS of a PILGRIM: what to TAKE from all heaps of BENDS below them, coming down, as ACTS let (how many "
                + "of each SORT there are in these, LEFT more than TAKEN, what they can carry), so that WORTH is most;");
        String text = "hill 20;sort 1 0 1;sort 1 5 1;bend 0 0;bend 0 0;bend 0 0;pilgrim 0;has 0 0 4;heap 0 1 1;heap 1 1 9";
        HillBends x = climbed(text, 2);
        downwards("two were left", x, 10, 0, 2);
        x.take(0, 1);
        downwards("one was taken", x, 5, 0, 1);
        x.take(0, 1);
        downwards("two were taken", x, 0, 0, 0);
        x.climb(0);
        downwards("one more was left", x, 5, 0, 1);
        downwards("no more than lie there", climbed(text.replace("heap 1 1 9", "heap 1 1 0"), 3), 5, 0, 1);
        String heavy = ";sort 1 0 1;sort 3 5 1;bend 0 0;bend 0 0;bend 0 0;pilgrim 0;has 0 0 4;heap 0 1 9";
        downwards("as heavy as can be", climbed("hill 7" + heavy, 3), 10, 0, 2);
        downwards("too heavy by one", climbed("hill 6" + heavy, 3), 5, 0, 1);
        downwards("nothing can be carried", climbed("hill 4;sort 1 0 1;sort 4 5 1;bend 0 0;pilgrim 0;has 0 0 2;heap 0 1 9", 1), 0, 0, 0);
        String nine = "hill 40;sort 1 0 1;sort 1 5 1;bend 0 0;bend 0 0;bend 0 0;pilgrim 0;has 0 0 3;heap 0 1 9;has 0 1 4;has 0 1 ";
        downwards("two more make nine", climbed(nine + "3", 3), 10, 0, 2);
        downwards("one more makes nine", climbed(nine + "4", 3), 5, 0, 1);
        downwards("nine are had", climbed(nine + "4;has 0 1 1", 3), 0, 0, 0);
        String eight = "hill 40;sort 1 0 1;sort 2 30 1" + ";bend 0 0".repeat(8) + ";pilgrim 0;has 0 0 4;has 0 0 4;heap 0 1 4;heap 7 1 4";
        downwards("eight", climbed(eight, 8), 240, 0, 8);
        String worthy = "hill 9;sort 1 1 1;bend 0 0;pilgrim 0;has 0 0 2;heap 0 0 3";
        HillBends y = climbed(worthy, 1);
        downwards("of the least worth", y, 1, 1);
        y.down(0);
        downwards("none at the foot, though asked above", y, 0, 0);
    }

    /** Somebody with nothing, just above a bend with nine of each sort, has left so many things there. */
    private static HillBends havingLeft(int many) {
        HillBends x = Checks.on("hill 40;sort 1 30 1;sort 1 29 1;sort 1 28 1;sort 1 27 1;sort 1 26 1;bend 0 0;pilgrim 99"
                + ";heap 0 0 9;heap 0 1 9;heap 0 2 9;heap 0 3 9;heap 0 4 9");
        for (int n = 1; n <= many; n++) {
            x.buy(0, 0);
            x.climb(0);
            if (n < many) {
                x.down(0);
            }
        }
        return x;
    }

    private static void downwardsOfAllThatCanBeCarried() {
        Bounds.term("LEFT more than TAKEN, what they can carry), so that WORTH is most;");
        downwards("39 were left", havingLeft(39), 9 * 114 + 3 * 26, 9, 9, 9, 9, 3);
        downwards("40 were left", havingLeft(40), 9 * 114 + 4 * 26, 9, 9, 9, 9, 4);
        downwards("41 were left", havingLeft(41), 9 * 114 + 4 * 26, 9, 9, 9, 9, 4);
        downwards("nine of a sort", havingLeft(9), 9 * 30, 9, 0, 0, 0, 0);
        downwards("ten", havingLeft(10), 9 * 30 + 29, 9, 1, 0, 0, 0);
    }

    private static void downwardsOfSeveral() {
        Bounds.term("of several the fewest, then the first row (by SORTS): WORTH; of a SORT.");
        String ahead = "hill 4;sort 1 0 1;sort 1 4 1;sort 1 4 1;sort 1 8 1;bend 0 0;bend 0 0;pilgrim 0;has 0 0 2;heap 0 1 9;heap 0 2 9";
        downwards("of one worth the first row", climbed(ahead, 1), 4, 0, 0, 1, 0);
        downwards("of one worth the first row", climbed(ahead, 2), 8, 0, 0, 2, 0);
        downwards("both of the best", climbed(ahead + ";heap 1 3 1;heap 0 3 1", 2), 16, 0, 0, 0, 2);
        downwards("the fewest, of no worth none", climbed(ahead + ";heap 0 1 0;heap 0 2 1", 2), 4, 0, 0, 1, 0);
        String few = "hill 5;sort 1 0 1;sort 2 6 1;sort 4 12 1;bend 0 0;bend 0 0;pilgrim 0;has 0 0 2;heap 0 1 2;heap 0 2 1";
        downwards("one instead of two", climbed(few, 2), 12, 0, 0, 1);
        String early = "hill 5;sort 4 12 1;sort 2 6 1;sort 1 0 1;bend 2 2;bend 2 2;pilgrim 0;has 0 2 2;heap 0 0 1;heap 0 1 2";
        downwards("one instead of two, though their row is the first", climbed(early, 2), 12, 1, 0, 0);
        String room = "hill 5;sort 3 5 1;sort 3 5 1;sort 1 0 1;bend 2 2;bend 2 2;pilgrim 0;has 0 2 2;heap 0 0 1;heap 0 1 1";
        downwards("the first row, with room for no other", climbed(room, 2), 5, 0, 1, 0);
        String behind = "hill 5;sort 1 0 1;sort 3 5 1;sort 3 5 1;bend 0 0;bend 0 0;pilgrim 0;has 0 0 2;heap 0 1 1;heap 0 2 1";
        downwards("the first row of the last two, with room for no other", climbed(behind, 2), 5, 0, 0, 1);
        downwards("two, if they are worth more", climbed(few.replace("sort 2 6 1", "sort 2 7 1"), 2), 14, 0, 2, 0);
        downwards("two, one of them light", climbed(few.replace("hill 5", "hill 6"), 2), 18, 0, 1, 1);
    }

    // ---- a bend less; riches

    private static void less() {
        Bounds.promise(26, "LESS what 0: which, 1: how many; -2: none is ahead.");
        for (int had = 6; had <= 8; had++) {
            HillBends x = Checks.on(having(EIGHT_ALIKE, had, 0));
            Bounds.is("of several the least, with " + had, x.less(0, 0), 0);
            Bounds.is("how many with " + had, x.less(0, 1), had >= 7 ? 128 : 0);
        }
        HillBends y = climbed(having(EIGHT_ALIKE, 8, 0), 7);
        Bounds.is("the last", y.less(0, 0), 7);
        Bounds.is("no bend is left then", y.less(0, 1), 1);
        y.climb(0);
        Bounds.is("at the top", y.less(0, 0), -2);
        Bounds.is("at the top", y.less(0, 1), -2);
        Bounds.is("no bends", Checks.on("hill 9;pilgrim 0").less(0, 0), -2);
        Bounds.is("no bends", Checks.on("hill 9;pilgrim 0").less(0, 1), -2);
        Bounds.term("LESS: the BEND ahead of a PILGRIM without which WAYS would be most for them, of 2 to the power of those "
                + "that are left; of several the least; how many.");
        String text = "hill 9;sort 1 1 1;sort 1 1 1;bend 0 0;bend 0 0;bend 1 1;pilgrim 0;has 0 0 2";
        Bounds.is("the highest", Checks.on(text).less(0, 0), 2);
        Bounds.is("four ways", Checks.on(text).less(0, 1), 4);
        Bounds.is("those ahead alone", climbed(text, 1).less(0, 1), 2);
        Bounds.is("by no way", Checks.on(text.replace(";has 0 0 2", "")).less(0, 0), 0);
        Bounds.is("by no way", Checks.on(text.replace(";has 0 0 2", "")).less(0, 1), 0);
        Bounds.promise(26, "NONE without these.");
        for (int pilgrim : new int[] {2, 4, FAR, -1, FAR_BELOW}) {
            Bounds.refused("of two, " + pilgrim, Bounds::midway, x -> x.less(pilgrim, 0), NONE);
        }
        for (int what : new int[] {2, 3, FAR, -1, -2, FAR_BELOW}) {
            Bounds.refused("what " + what, Bounds::midway, x -> x.less(0, what), NONE);
            Bounds.is("at the top, what " + what, Checks.on("hill 9;pilgrim 0").less(0, what), NONE);
        }
        Bounds.is("without a hill", new HillBends().less(0, 0), NONE);
    }

    private static void rich() {
        Bounds.promise(27, "RICH what 0: who, 1: how much; -2: there is nobody.");
        Bounds.is("nobody", Checks.on("hill 9;sort 1 1 1").rich(0), -2);
        Bounds.is("nobody", Checks.on("hill 9;sort 1 1 1").rich(1), -2);
        Bounds.is("nothing is had", Checks.on("hill 9;pilgrim 0;pilgrim 0").rich(0), 0);
        Bounds.is("nothing is had", Checks.on("hill 9;pilgrim 0;pilgrim 0").rich(1), 0);
        Bounds.term("RICH: whose things are WORTH most with MONEY; of several the least; how much.");
        HillBends x = Checks.on("hill 9;sort 1 30 1;sort 1 0 30;pilgrim 29;pilgrim 0;pilgrim 30;pilgrim 0;has 1 0 1;has 3 1 4");
        Bounds.is("of several the least", x.rich(0), 1);
        Bounds.is("by worth, not by price", x.rich(1), 30);
        HillBends most = Checks.on("hill 40;sort 1 0 1;pilgrim 98;pilgrim 98;pilgrim 98;pilgrim 99");
        Bounds.is("the last", most.rich(0), 3);
        Bounds.is("all money", most.rich(1), 99);
        Bounds.promise(27, "NONE for others, or without a HILL.");
        for (int what : new int[] {2, 3, FAR, -1, -2, FAR_BELOW}) {
            Bounds.refused("what " + what, Bounds::midway, y -> y.rich(what), NONE);
            Bounds.is("nobody, what " + what, Checks.on("hill 9").rich(what), NONE);
        }
        Bounds.refused("without a hill", HillBends::new, y -> y.rich(0), NONE);
        Bounds.refused("without a hill", HillBends::new, y -> y.rich(1), NONE);
    }

    /** Pilgrim 3 of four and sort 4 of five are asked for like the first ones. */
    private static void theLastOfEach() {
        Bounds.term("SORTS 0 to 4, BENDS 0 to 7, PILGRIMS 0 to 3, in the order told;");
        String text = "hill 40;sort 1 1 1;sort 1 1 2;sort 1 1 3;sort 1 1 4;sort 1 7 5" + ";bend 4 0".repeat(4)
                + ";pilgrim 0;pilgrim 1;pilgrim 2;pilgrim 99;has 0 4 4;has 0 4 4;has 3 4 3;has 3 0 1;heap 0 4 2";
        HillBends x = Checks.on(text);
        Bounds.is("reach", x.reach(3, NONE), 3);
        Bounds.is("then they have", x.reach(3, 4), 0);
        Bounds.is("lacks", x.lacks(3, 4), 1);
        Bounds.is("lacks, price", x.lacks(3, NONE), 5);
        Bounds.is("ways", x.ways(3), 4);
        Bounds.is("sure", x.sure(3, 4), 1);
        Bounds.is("sure, price", x.sure(3, NONE), 8);
        Bounds.is("bag, ways", x.bag(3, NONE), 16);
        Bounds.is("bag, price", x.bag(3, -2), 8);
        Bounds.is("bag, of 4", x.bag(3, 4), 1);
        Bounds.is("bag, of 3", x.bag(3, 3), 0);
        Bounds.is("bag, of 0", x.bag(3, 0), 3);
        Bounds.is("both", x.both(3, 0), 1);
        Bounds.is("partner", x.partner(3, 0), 0);
        Bounds.is("less", x.less(3, 0), 0);
        Bounds.is("less, ways", x.less(3, 1), 4);
        Bounds.is("rich", x.rich(0), 3);
        Bounds.is("how much", x.rich(1), 121);
        x.climb(3);
        x.climb(3);
        Bounds.is("downwards", x.downwards(3, NONE), 14);
        Bounds.is("downwards, of 4", x.downwards(3, 4), 2);
        Bounds.is("downwards, of 0", x.downwards(3, 0), 0);
        String all = "hill 40" + ";sort 1 2 3".repeat(5) + ";bend 0 0;bend 1 1;bend 2 2;bend 3 3;bend 4 4;pilgrim 99"
                + ";has 0 0 1;has 0 1 1;has 0 2 1;has 0 3 1;has 0 4 1";
        HillBends y = Checks.on(all);
        Bounds.is("with one of each", y.reach(0, NONE), 5);
        Bounds.is("nothing is lacking", y.lacks(0, NONE), 0);
        Bounds.is("all is worth", y.rich(1), 109);
        for (int i = 0; i < 5; i++) {
            y.climb(0);
        }
        downwards("one of each", y, 10, 1, 1, 1, 1, 1);
    }

    private static void nothingChanges() {
        Bounds.term("(By what is asked nothing changes.)");
        Bounds.refused("reach", Bounds::midway, x -> x.reach(0, NONE), 1);
        Bounds.refused("reach", Bounds::midway, x -> x.reach(1, 2), 2);
        Bounds.refused("lacks", Bounds::midway, x -> x.lacks(0, NONE), 10);
        Bounds.refused("lacks", Bounds::midway, x -> x.lacks(0, 0), 1);
        Bounds.refused("ways", Bounds::midway, x -> x.ways(1), 0);
        Bounds.refused("sure", Bounds::midway, x -> x.sure(0, NONE), 10);
        Bounds.refused("bag", Bounds::midway, x -> x.bag(1, NONE), 2);
        Bounds.refused("bag", Bounds::midway, x -> x.bag(1, -2), 4);
        Bounds.refused("bag", Bounds::midway, x -> x.bag(1, 0), 1);
        Bounds.refused("both", Checks::onSmall, x -> x.both(0, 1), 0);
        Bounds.refused("partner", Checks::onSmall, x -> x.partner(0, 0), 1);
        Bounds.refused("downwards", Bounds::midway, x -> x.downwards(0, NONE), 9);
        Bounds.refused("downwards", Bounds::midway, x -> x.downwards(0, 1), 1);
        Bounds.refused("less", Bounds::midway, x -> x.less(1, 0), 0);
        Bounds.refused("less", Bounds::midway, x -> x.less(1, 1), 2);
        Bounds.refused("rich", Bounds::midway, x -> x.rich(1), 20);
        Bounds.refused("gifts", Bounds::midway, x -> x.gifts(NONE), 1);
        Bounds.refused("gifts", Bounds::midway, x -> x.gifts(11), 1);
        Bounds.refused("ruled", Bounds::midway, x -> x.ruled(0), 1);
        Bounds.refused("ruled", Bounds::midway, x -> x.ruled(1), 0);
        Bounds.refused("look", Bounds::midway, x -> x.look(1, 0), 0);
        Bounds.refused("look", Bounds::midway, x -> x.look(60, 1), 1);
        Bounds.unchanged("years", Bounds::midway, x -> x.years(10, 60, 0));
        Bounds.unchanged("years", Bounds::midway, x -> x.years(10, 60, 1));
        Bounds.refused("count", Bounds::midway, x -> x.count(6), 1);
        Bounds.refused("pilgrim", Bounds::midway, x -> x.pilgrim(0, 0), 1);
        Bounds.refused("bend", Bounds::midway, x -> x.bend(0, 2), 1);
        Bounds.refused("sort", Bounds::midway, x -> x.sort(0, 0), 2);
    }
}
