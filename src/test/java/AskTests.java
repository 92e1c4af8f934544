/** Promises 18 to 37: what is asked, what is told, draws, counts and images. */
public final class AskTests {
    private static final int NONE = HillBends.NONE;
    private static final int[] FAR = {Integer.MIN_VALUE, -9, 5, 9, Integer.MAX_VALUE};
    private static final String THREE = "hill 40;sort 1 3 2;sort 2 7 5;bend 0 1;bend 0 1;pilgrim 9;pilgrim 9;pilgrim 9;"
            + "has 0 0 2;has 1 0 1;has 1 1 2;has 2 1 4";

    private AskTests() {
    }

    public static void main(String[] args) {
        promise18Reach();
        promise19Lacks();
        promise20Ways();
        promise21Sure();
        promise22Bag();
        promise23Both();
        promise24Partner();
        promise25Downwards();
        promise26Less();
        promise27Rich();
        promise28Leaves();
        promise29Gifts();
        promise30Note();
        promise31Ruled();
        promise32Look();
        promise33Seed();
        promise34Years();
        promise35Count();
        promise36Image();
        promise37Back();
        askingChangesNothing();
        Checks.close("AskTests");
    }

    private static void promise18Reach() {
        HillBends x = Checks.onSmall();
        Checks.is("reach 0", x.reach(0, NONE), 1);
        Checks.is("then they have", x.reach(0, 0), 0);
        Checks.is("reach 1", x.reach(1, NONE), 0);
        Checks.is("then they have", x.reach(1, 2), 2);
        x.night();
        Checks.is("reach 1 by seconds", x.reach(1, NONE), 1);
        Checks.is("then they have", x.reach(1, 1), 0);
        x.climb(1);
        Checks.is("from where they are", x.reach(1, NONE), 1);
        Checks.is("a sort that isn't", x.reach(0, 3), -2);
        Checks.is("below NONE", x.reach(0, -2), -2);
        Checks.is("no pilgrim", x.reach(2, NONE), -2);
        Checks.is("no pilgrim", x.reach(-1, NONE), -2);
        HillBends y = Checks.on("hill 9;sort 1 1 1;bend 0 0;bend 0 0;pilgrim 0;has 0 0 3");
        Checks.is("to the top", y.reach(0, NONE), 2);
        Checks.is("with one over", y.reach(0, 0), 1);
    }

    private static void promise19Lacks() {
        HillBends x = Checks.onSmall();
        int[] first = {0, 1, 1};
        int[] second = {1, 0, 0};
        for (int sort = 0; sort < 3; sort++) {
            Checks.is("0 lacks " + sort, x.lacks(0, sort), first[sort]);
            Checks.is("1 lacks " + sort, x.lacks(1, sort), second[sort]);
        }
        Checks.is("price for 0", x.lacks(0, NONE), 7);
        Checks.is("price for 1", x.lacks(1, NONE), 4);
        x.climb(0);
        x.night();
        Checks.is("ahead of 0, by seconds", x.lacks(0, NONE), 10);
        Checks.is("a sort that isn't", x.lacks(0, 3), -2);
        Checks.is("below NONE", x.lacks(0, -2), -2);
        Checks.is("no pilgrim", x.lacks(2, 0), -2);
        Checks.is("no pilgrim", x.lacks(-1, 0), -2);
    }

    private static void promise20Ways() {
        HillBends x = Checks.on(THREE);
        Checks.is("0", x.ways(0), 1);
        Checks.is("1", x.ways(1), 3);
        Checks.is("2", x.ways(2), 1);
        x.climb(0);
        Checks.is("one bend ahead", x.ways(0), 1);
        x.climb(0);
        Checks.is("at the top", x.ways(0), 1);
        Checks.is("no pilgrim", x.ways(3), NONE);
        Checks.is("no pilgrim", x.ways(-1), NONE);
        HillBends y = Checks.on("hill 40;sort 1 1 1" + ";bend 0 0".repeat(8) + ";pilgrim 0;pilgrim 1;has 0 0 4;has 0 0 4");
        Checks.is("alike ones count as two", y.ways(0), 256);
        Checks.is("nothing is had", y.ways(1), 0);
    }

    private static void promise21Sure() {
        HillBends x = Checks.onSmall();
        int[] first = {1, 2, 1};
        int[] second = {2, 1, 0};
        for (int sort = 0; sort < 3; sort++) {
            Checks.is("0, sure by " + sort, x.sure(0, sort), first[sort]);
            Checks.is("1, sure by " + sort, x.sure(1, sort), second[sort]);
        }
        Checks.is("price for 0", x.sure(0, NONE), 17);
        Checks.is("price for 1", x.sure(1, NONE), 14);
        x.climb(0);
        Checks.is("what is ahead", x.sure(0, NONE), 11);
        Checks.is("a sort that isn't", x.sure(0, 3), -2);
        Checks.is("below NONE", x.sure(0, -2), -2);
        Checks.is("no pilgrim", x.sure(2, 0), -2);
        Checks.is("no pilgrim", x.sure(-1, 0), -2);
    }

    private static void bag(String what, HillBends x, int pilgrim, int... due) {
        Checks.is(what + ": ways", x.bag(pilgrim, NONE), due[0]);
        Checks.is(what + ": price", x.bag(pilgrim, -2), due[1]);
        for (int sort = 0; sort < due.length - 2; sort++) {
            Checks.is(what + ": sort " + sort, x.bag(pilgrim, sort), due[2 + sort]);
        }
    }

    private static void promise22Bag() {
        HillBends x = Checks.onSmall();
        bag("what can be carried", x, 0, 6, 13, 0, 2, 1);
        bag("what can be paid", x, 1, 2, 4, 1, 0, 0);
        Checks.is("a sort that isn't", x.bag(0, 3), -3);
        Checks.is("below -2", x.bag(0, -3), -3);
        Checks.is("no pilgrim", x.bag(2, NONE), -3);
        Checks.is("no pilgrim", x.bag(-1, NONE), -3);
        x.climb(0);
        Checks.is("not at the foot", x.bag(0, NONE), -3);
        bag("of the same price the first row", Checks.on("hill 9;sort 1 1 3;sort 1 1 3;bend 0 1;pilgrim 3"), 0, 1, 3, 0, 1);
        bag("the least price", Checks.on("hill 9;sort 1 1 3;sort 1 1 4;bend 0 1;pilgrim 4"), 0, 1, 3, 1, 0);
        bag("both", Checks.on("hill 9;sort 1 1 3;sort 1 1 4;bend 0 1;pilgrim 7"), 0, 2, 7, 1, 1);
        bag("no more than 3", Checks.on("hill 9;sort 1 1 1" + ";bend 0 0".repeat(4) + ";pilgrim 9"), 0, 0, 0, 0);
        bag("3", Checks.on("hill 9;sort 1 1 1" + ";bend 0 0".repeat(4) + ";pilgrim 9;has 0 0 1"), 0, 16, 3, 3);
        bag("no bends", Checks.on("hill 9;sort 1 1 1;pilgrim 9"), 0, 1, 0, 0);
        bag("no sorts", Checks.on("hill 9;pilgrim 9"), 0, 1, 0);
        bag("no weight", Checks.on("hill 3;sort 4 1 1;bend 0 0;pilgrim 9"), 0, 0, 0, 0);
    }

    private static void promise23Both() {
        HillBends x = Checks.on(THREE);
        Checks.is("0 and 1", x.both(0, 1), 2);
        Checks.is("1 and 0", x.both(1, 0), 2);
        Checks.is("0 and 2", x.both(0, 2), 3);
        Checks.is("1 and 2", x.both(1, 2), 1);
        Checks.is("unlike", x.both(1, 1), NONE);
        Checks.is("no pilgrim", x.both(0, 3), NONE);
        Checks.is("no pilgrim", x.both(-1, 0), NONE);
        x.climb(0);
        Checks.is("not of the same height", x.both(0, 1), NONE);
        x.climb(1);
        Checks.is("one bend ahead", x.both(0, 1), 1);
        HillBends y = Checks.on("hill 9;pilgrim 0;pilgrim 0");
        Checks.is("at the top", y.both(0, 1), 1);
        HillBends z = Checks.on("hill 4;sort 1 1 1" + ";bend 0 0".repeat(4) + ";pilgrim 0;pilgrim 0;has 0 0 4;has 1 0 4");
        Checks.is("all of it", z.both(0, 1), 16);
    }

    private static void promise24Partner() {
        HillBends x = Checks.on(THREE);
        int[] who = {2, 0, 0};
        int[] many = {3, 2, 3};
        for (int pilgrim = 0; pilgrim < 3; pilgrim++) {
            Checks.is("partner of " + pilgrim, x.partner(pilgrim, 0), who[pilgrim]);
            Checks.is("ways with them", x.partner(pilgrim, 1), many[pilgrim]);
        }
        Checks.is("no pilgrim", x.partner(3, 0), NONE);
        Checks.is("no pilgrim", x.partner(-1, 0), NONE);
        Checks.is("not asked so", x.partner(0, 2), NONE);
        Checks.is("not asked so", x.partner(0, -1), NONE);
        x.climb(0);
        Checks.is("nobody", x.partner(0, 0), -2);
        Checks.is("nobody", x.partner(0, 1), -2);
        Checks.is("only 2 is there", x.partner(1, 0), 2);
        HillBends y = Checks.on("hill 9;sort 1 1 1;bend 0 0;pilgrim 0;pilgrim 0;pilgrim 0;has 1 0 1");
        Checks.is("of several the least", y.partner(1, 0), 0);
        Checks.is("even by no way", y.partner(0, 0), 1);
        Checks.is("by no way", y.partner(0, 1), 0);
    }

    private static void downwards(String what, HillBends x, int... due) {
        Checks.is(what + ": worth", x.downwards(0, NONE), due[0]);
        for (int sort = 0; sort < due.length - 1; sort++) {
            Checks.is(what + ": sort " + sort, x.downwards(0, sort), due[1 + sort]);
        }
    }

    private static HillBends climbed(String text, int times) {
        HillBends x = Checks.on(text);
        for (int i = 0; i < times; i++) {
            x.climb(0);
        }
        return x;
    }

    private static void promise25Downwards() {
        String text = "hill 12;sort 3 10 1;sort 2 6 1;sort 4 10 1;sort 1 0 1;bend 3 3;bend 3 3;bend 3 3;pilgrim 0;"
                + "has 0 3 4;heap 0 0 1;heap 1 1 2;heap 2 2 1;heap 2 3 5";
        HillBends x = climbed(text, 3);
        downwards("no more than left", x, 26, 1, 1, 1, 0);
        x.take(0, 2);
        downwards("less taken", x, 16, 1, 1, 0, 0);
        x.undo();
        x.down(0);
        downwards("from bends below", x, 22, 1, 2, 0, 0);
        x.down(0);
        x.down(0);
        downwards("at the foot", x, 0, 0, 0, 0, 0);
        Checks.is("a sort that isn't", x.downwards(0, 4), -2);
        Checks.is("below NONE", x.downwards(0, -2), -2);
        Checks.is("no pilgrim", x.downwards(1, NONE), -2);
        Checks.is("no pilgrim", x.downwards(-1, NONE), -2);
        String light = "hill 5;sort 1 1 1;sort 3 10 1;sort 2 7 1;bend 0 0;bend 0 0;bend 0 0;pilgrim 0;has 0 0 3;heap 0 1 2;heap 1 2 2";
        downwards("what can be carried", climbed(light, 3), 17, 0, 1, 1);
        String tie = "hill 9;sort 1 4 1;sort 1 4 1;sort 1 8 1;bend 0 0;bend 0 0;pilgrim 0;has 0 0 2;heap 0 1 3;heap 0 2 1";
        downwards("the first row", climbed(tie, 2), 12, 0, 1, 1);
        String few = "hill 4;sort 2 4 1;sort 4 8 1;sort 1 0 1;bend 2 2;bend 2 2;pilgrim 0;has 0 2 2;heap 0 0 2;heap 0 1 1";
        downwards("the fewest", climbed(few, 2), 8, 0, 1, 0);
        String nine = "hill 40;sort 1 9 1;sort 1 5 1;bend 1 1;bend 1 1;pilgrim 0;has 0 0 4;has 0 0 4;has 0 1 2;heap 0 0 5";
        downwards("nine of a sort at most", climbed(nine, 2), 14, 1, 1);
    }

    private static void promise26Less() {
        HillBends x = Checks.onSmall();
        Checks.is("of several the least", x.less(0, 0), 0);
        Checks.is("none", x.less(0, 1), 0);
        Checks.is("the best", x.less(1, 0), 0);
        Checks.is("its ways", x.less(1, 1), 2);
        Checks.is("no pilgrim", x.less(2, 0), NONE);
        Checks.is("no pilgrim", x.less(-1, 0), NONE);
        Checks.is("not asked so", x.less(0, 2), NONE);
        Checks.is("not asked so", x.less(0, -1), NONE);
        x.climb(0);
        Checks.is("what is ahead", x.less(0, 0), 1);
        HillBends y = Checks.on("hill 9;sort 1 1 1;sort 1 1 1;bend 0 0;bend 1 1;pilgrim 0;has 0 0 1");
        Checks.is("the higher one", y.less(0, 0), 1);
        Checks.is("its ways", y.less(0, 1), 2);
        y.climb(0);
        Checks.is("the last one", y.less(0, 1), 1);
        HillBends z = Checks.on("hill 9;pilgrim 0");
        Checks.is("none is ahead", z.less(0, 0), -2);
        Checks.is("none is ahead", z.less(0, 1), -2);
    }

    private static void promise27Rich() {
        HillBends x = Checks.onSmall();
        Checks.is("who", x.rich(0), 0);
        Checks.is("how much", x.rich(1), 25);
        Checks.is("not asked so", x.rich(2), NONE);
        Checks.is("not asked so", x.rich(-1), NONE);
        HillBends y = Checks.on("hill 9;sort 1 6 1;pilgrim 4;pilgrim 5;pilgrim 11;has 1 0 1");
        Checks.is("of several the least", y.rich(0), 1);
        Checks.is("so much", y.rich(1), 11);
        HillBends z = Checks.on("hill 9");
        Checks.is("nobody", z.rich(0), -2);
        Checks.is("nobody", z.rich(1), -2);
        Checks.is("nobody, not asked so", z.rich(2), NONE);
        Checks.is("without a hill", new HillBends().rich(0), NONE);
    }

    private static void promise28Leaves() {
        HillBends x = Checks.onSmall();
        Checks.is("0 at first", x.leaves(0, 9), 0);
        Checks.is("it was 9", x.leaves(0, 0), 9);
        Checks.is("of another", x.leaves(2, 4), 0);
        Checks.is("too many", x.leaves(2, 10), NONE);
        Checks.is("too few", x.leaves(2, -1), NONE);
        Checks.is("no sort", x.leaves(3, 1), NONE);
        Checks.is("no sort", x.leaves(-1, 1), NONE);
        Checks.is("it stays", x.leaves(2, 4), 4);
        Checks.is("without a hill", new HillBends().leaves(0, 0), NONE);
    }

    private static void gifts(String what, HillBends x, int... due) {
        int bends = (due.length - 1) / 2;
        Checks.is(what + ": rows", x.gifts(NONE), due[0]);
        for (int bend = 0; bend < 8; bend++) {
            Checks.is(what + ": can " + bend, x.gifts(bend), bend < bends ? due[1 + bend] : 0);
            Checks.is(what + ": first " + bend, x.gifts(10 + bend), bend < bends ? due[1 + bends + bend] : -2);
        }
    }

    private static void promise29Gifts() {
        HillBends x = Checks.onSmall();
        gifts("nothing", x, 1);
        x.leaves(0, 1);
        x.leaves(1, 1);
        gifts("two", x, 1, 0b1, 0b10, 0, 1);
        x.leaves(1, 2);
        gifts("three", x, 1, 0b10, 0b10, 0b1, 1, 1, 0);
        x.leaves(1, 3);
        gifts("more than bends", x, 0);
        x.leaves(1, 0);
        x.leaves(0, 2);
        gifts("no row", x, 0);
        for (int what : new int[] {Integer.MIN_VALUE, -2, 8, 9, 18, Integer.MAX_VALUE}) {
            Checks.is("not asked so: " + what, x.gifts(what), -3);
        }
        Checks.is("without a hill", new HillBends().gifts(NONE), -3);
        HillBends y = Checks.on("hill 9;sort 1 1 1;sort 1 1 1;bend 0 1;bend 1 0;bend 0 1");
        y.leaves(0, 1);
        y.leaves(1, 2);
        gifts("three rows", y, 3, 0b11, 0b11, 0b11, 0, 1, 1);
        HillBends four = Checks.on("hill 9;sort 1 1 1;sort 1 1 1;bend 0 1;bend 0 1;bend 0 1;bend 0 1");
        four.leaves(0, 2);
        four.leaves(1, 2);
        gifts("six rows", four, 6, 0b11, 0b11, 0b11, 0b11, 0, 0, 1, 1);
        HillBends z = Checks.on("hill 9;sort 1 1 1" + ";bend 0 0".repeat(8));
        z.leaves(0, 8);
        gifts("alike ones count once", z, 1, 1, 1, 1, 1, 1, 1, 1, 1, 0, 0, 0, 0, 0, 0, 0, 0);
    }

    private static void promise30Note() {
        HillBends x = Checks.onSmall();
        Checks.is("night too low", x.note(-2, 0, 0), -2);
        Checks.is("night too high", x.note(61, 0, 0), -2);
        Checks.is("no bend", x.note(0, 3, 0), -2);
        Checks.is("no bend", x.note(0, -1, 0), -2);
        Checks.is("no sort", x.note(0, 0, 3), -2);
        Checks.is("no sort", x.note(0, 0, -1), -2);
        for (int n = 1; n <= 10; n++) {
            Checks.is("note " + n, x.note(n == 1 ? 60 : 0, 0, 2), n);
        }
        Checks.is("there are 10", x.note(0, 0, 0), -2);
        Checks.is("10 stay", x.count(10), 10);
        Checks.is("none then", x.note(NONE, 9, 9), 0);
        Checks.is("none are", x.count(10), 0);
        Checks.is("the first again", x.note(0, 0, 0), 1);
        Checks.is("without a hill", new HillBends().note(0, 0, 0), -2);
        Checks.is("none, without a hill", new HillBends().note(NONE, 0, 0), 0);
    }

    /** By no rule bends turn each night; by rule 0 they ask for their first, by rule 1 for their second. */
    private static HillBends onRules() {
        HillBends x = Checks.onSmall();
        Checks.rule(x, "ask 1");
        Checks.rule(x, "ask 0");
        return x;
    }

    private static void promise31Ruled() {
        HillBends x = Checks.onSmall();
        Checks.is("none alone", x.ruled(0), 1);
        x = onRules();
        Checks.is("all", x.ruled(0), 3);
        Checks.is("none is the first", x.ruled(1), NONE);
        x.note(1, 0, 1);
        Checks.is("none and 1", x.ruled(0), 2);
        x.note(2, 2, 0);
        Checks.is("1", x.ruled(0), 1);
        Checks.is("it is 1", x.ruled(1), 1);
        x.note(0, 0, 1);
        Checks.is("none is so", x.ruled(0), 0);
        Checks.is("none is so", x.ruled(1), -2);
        x.note(NONE, 0, 0);
        x.note(60, 0, 0);
        x.note(59, 0, 0);
        Checks.is("rule 0", x.ruled(1), 0);
        Checks.is("not asked so", x.ruled(2), -3);
        Checks.is("not asked so", x.ruled(-1), -3);
        Checks.is("without a hill", new HillBends().ruled(0), -3);
        ruledFromTheBeginOn();
    }

    private static void ruledFromTheBeginOn() {
        HillBends x = Checks.onSmall();
        Checks.rule(x, "ask 1 if here = 2; ask 0");
        Checks.rule(x, "ask twos - 2");
        Checks.rule(x, "ask 1 - passed");
        x.climb(0);
        x.night();
        x.note(1, 0, 0);
        Checks.is("nobody climbs", x.ruled(0), 2);
        Checks.is("rule 0: two are here", x.ruled(1), 0);
        x.note(NONE, 0, 0);
        x.note(1, 0, 1);
        Checks.is("none and rule 1: two lie there", x.ruled(0), 2);
        Checks.rule(x, "ask 0");
        Checks.is("a rule more", x.ruled(0), 3);
        Checks.hill(x, "hill 9;sort 1 1 1;sort 1 1 1;bend 0 1;heap 0 1 3");
        x.note(1, 0, 0);
        Checks.is("another hill: rules 1 and 2", x.ruled(0), 2);
        Checks.is("rule 1: three lie there", x.ruled(1), 1);
    }

    private static void promise32Look() {
        HillBends x = onRules();
        Checks.is("which", x.look(1, 0), 0);
        Checks.is("how many", x.look(1, 1), 2);
        Checks.is("all alike at the begin", x.look(0, 1), 3);
        Checks.is("of several the least", x.look(0, 0), 0);
        Checks.rule(x, "ask 1 if bend = 0; ask bend - 2 + night % 2");
        Checks.is("two and two", x.look(1, 1), 2);
        x.note(1, 0, 0);
        Checks.is("bend 2 parts these", x.look(1, 0), 2);
        Checks.is("from one another", x.look(1, 1), 1);
        Checks.is("an odd night", x.look(59, 1), 1);
        Checks.is("the last night", x.look(60, 1), 2);
        Checks.is("no such night", x.look(61, 0), NONE);
        Checks.is("no such night", x.look(-1, 0), NONE);
        Checks.is("not asked so", x.look(0, 2), NONE);
        Checks.is("not asked so", x.look(0, -1), NONE);
        x.note(0, 0, 1);
        Checks.is("no rule is so", x.look(1, 0), -2);
        Checks.is("no rule is so", x.look(1, 1), -2);
        Checks.is("no bends", Checks.on("hill 9").look(0, 0), -2);
        Checks.is("no bends", Checks.on("hill 9").look(0, 1), -2);
        Checks.is("without a hill", new HillBends().look(0, 0), NONE);
        HillBends y = Checks.on("hill 9;sort 1 1 1;sort 1 1 1;bend 0 0;bend 0 1");
        Checks.rule(y, "ask 1");
        Checks.is("by what is asked, not by which of two", y.look(1, 0), 1);
    }

    private static void promise33Seed() {
        HillBends x = new HillBends();
        Checks.is("0 at first", x.seed(7), 0);
        Checks.is("7", x.seed(2147483647), 7);
        Checks.is("below 0", x.seed(-1), NONE);
        Checks.is("below 0", x.seed(Integer.MIN_VALUE), NONE);
        Checks.is("it stays", x.count(12), 2147483647);
        Checks.is("the most", x.seed(0), 2147483647);
    }

    private static void promise34Years() {
        HillBends x = Checks.on("hill 9;sort 1 1 1;bend 0 0;bend 0 0;bend 0 0;pilgrim 0;has 0 0 3");
        x.seed(5);
        // Draws mod 4 from 5 on: 3 1 0 1 1 0.
        int[] heights = {1, 2, 1, 2, 2, 1};
        int[] things = {1, 2, 2, 3, 3, 3};
        for (int n = 1; n <= 6; n++) {
            Checks.is("heights after " + n, x.years(1, n, 0), heights[n - 1]);
            Checks.is("things after " + n, x.years(1, n, 1), things[n - 1]);
        }
        Checks.is("draws go on", x.years(2, 2, 0), 3);
        Checks.is("draws go on", x.years(2, 2, 1), 3);
        Checks.is("x as it was", x.count(12), 5);
        Checks.is("nothing stays", x.pilgrim(0, 0), 0);
        Checks.is("nothing to be undone", x.count(11), 0);
        Checks.is("no night", x.count(6), 0);
        x.climb(0);
        Checks.is("from now on", x.years(1, 1, 0), 2);
        Checks.is("left in these years", x.years(1, 1, 1), 1);
        int[][] wrong = {{0, 1, 0}, {11, 1, 0}, {1, 0, 0}, {1, 61, 0}, {1, 1, 2}, {1, 1, -1}, {-1, -1, 0}};
        for (int[] w : wrong) {
            Checks.is("not so", x.years(w[0], w[1], w[2]), NONE);
        }
        Checks.is("the most", x.years(10, 60, 1) >= 0 ? 1 : 0, 1);
        Checks.is("without a hill", new HillBends().years(1, 1, 0), NONE);
        Checks.is("nobody", Checks.on("hill 9").years(1, 1, 0), 0);
        yearsOfNights();
    }

    private static void yearsOfNights() {
        HillBends x = Checks.on("hill 9;sort 1 1 1;sort 1 1 1;bend 0 1;bend 0 1;bend 0 1;pilgrim 0;pilgrim 0;has 0 0 2;has 1 1 2");
        // Draws mod 4 from 1 on: 2 2 | 1 3 | 3 3 | 2 3 | 0 2.
        x.seed(1);
        Checks.is("0 up by first", x.years(1, 1, 0), 1);
        Checks.is("1 up by second", x.years(1, 2, 0), 2);
        Checks.is("0 up again", x.years(1, 3, 0), 3);
        Checks.is("1 up again", x.years(1, 4, 0), 4);
        Checks.is("0 down, nobody up", x.years(1, 5, 0), 3);
        Checks.is("four things", x.years(1, 5, 1), 4);
        Checks.rule(x, "ask 1");
        x.force(0);
        Checks.is("0 alone, by the rule", x.years(1, 4, 0), 2);
    }

    private static void promise35Count() {
        HillBends x = Checks.onSmall();
        int[] due = {10, 3, 3, 2, 0, NONE, 0, 0, 0, 2, 0, 0, 0, 0};
        for (int what = 0; what < due.length; what++) {
            Checks.is("count " + what, x.count(what), due[what]);
        }
        Checks.rule(x, "ask 0");
        x.force(0);
        x.night();
        x.climb(1);
        x.note(0, 0, 0);
        x.seed(8);
        x.feed(0, 0, 0, 0, 0);
        int[] then = {10, 3, 3, 2, 1, 0, 1, 0b101, 0, 3, 1, 2, 8, 20};
        for (int what = 0; what < then.length; what++) {
            Checks.is("then count " + what, x.count(what), then[what]);
        }
        for (int what : new int[] {-1, 14, Integer.MIN_VALUE, Integer.MAX_VALUE}) {
            Checks.is("not counted: " + what, x.count(what), NONE);
        }
        Checks.is("at the top of no bends", Checks.on("hill 9;pilgrim 0;pilgrim 0").count(8), 0b11);
    }

    private static void promise36Image() {
        HillBends x = Checks.onSmall();
        Checks.is("night 0", x.image(0), 0);
        x.night();
        Checks.is("night 1", x.image(3), 1);
        Checks.is("acts stay", x.count(11), 1);
        Checks.is("no such", x.image(4), NONE);
        Checks.is("no such", x.image(-1), NONE);
        x.night();
        Checks.is("in place of another", x.image(3), 2);
        Checks.is("which it is", x.back(3), 2);
        Checks.is("the other", x.back(0), 0);
        Checks.is("without a hill", new HillBends().image(1), 0);
    }

    private static void promise37Back() {
        HillBends x = Checks.onSmall();
        Checks.rule(x, "ask 1");
        Checks.rule(x, "ask 0");
        x.force(0);
        x.seed(4);
        x.leaves(1, 3);
        x.note(2, 1, 1);
        x.climb(0);
        x.night();
        x.image(1);
        Checks.is("never made", x.back(0), NONE);
        Checks.is("no such", x.back(4), NONE);
        Checks.is("no such", x.back(-1), NONE);
        Checks.is("acts stay", x.count(11), 2);
        x.force(1);
        x.seed(9);
        Checks.hill(x, "hill 30;sort 1 1 1;bend 0 0;pilgrim 4");
        Checks.rule(x, "ask 2");
        x.night();
        x.feed(0, 0, 0, 0, 0);
        Checks.is("back", x.back(1), 1);
        int[] due = {10, 3, 3, 2, 3, 0, 1, 0, 0, 3, 1, 0, 4, 20};
        for (int what = 0; what < due.length; what++) {
            Checks.is("count " + what, x.count(what), due[what]);
        }
        Checks.is("height", x.pilgrim(0, 0), 1);
        Checks.is("left", x.pilgrim(0, 2), 1);
        Checks.is("sorts", x.sort(1, 1), 9);
        Checks.is("undo", x.undo(), NONE);
        Checks.is("told", x.leaves(1, 0), 3);
        Checks.is("by all but rule 2", x.ruled(0), 4);
        x.note(1, 0, 1);
        Checks.is("by none and rule 1, as the hill of old has it", x.ruled(0), 2);
        x.climb(1);
        Checks.is("again", x.back(1), 1);
        Checks.is("told again", x.leaves(1, 0), 3);
        backToNoHill();
        backToNotes();
    }

    private static void backToNotes() {
        HillBends x = onRules();
        x.note(2, 2, 0);
        x.image(0);
        x.note(NONE, 0, 0);
        x.note(0, 1, 2);
        Checks.is("no rule is so", x.ruled(0), 0);
        x.back(0);
        Checks.is("the note of old", x.ruled(0), 1);
        Checks.is("by it", x.ruled(1), 1);
        x.note(0, 0, 0);
        Checks.is("and another one", x.count(10), 2);
        x.back(0);
        Checks.is("the image stays as it was made", x.count(10), 1);
    }

    private static void backToNoHill() {
        HillBends x = new HillBends();
        x.image(2);
        Checks.hill(x, Checks.SMALL);
        Checks.is("back to no hill", x.back(2), 0);
        Checks.is("none is there", x.rich(0), NONE);
        Checks.is("no bends", x.count(2), 0);
        Checks.is("no things", x.count(9), 0);
    }

    /** All that is asked, with arguments near and far; then all is as it was. */
    private static void askingChangesNothing() {
        HillBends x = onRules();
        x.climb(0);
        x.night();
        x.image(0);
        int before = sum(x);
        for (int a : new int[] {-3, -2, -1, 0, 1, 2, 3, 4, 17}) {
            askAll(x, a);
        }
        for (int a : FAR) {
            askAll(x, a);
        }
        Checks.is("all is as it was", sum(x), before);
        Checks.is("acts too", x.count(11), 2);
    }

    private static void askAll(HillBends x, int a) {
        for (int b = -2; b < 3; b++) {
            x.reach(a, b);
            x.lacks(a, b);
            x.sure(a, b);
            x.bag(a, b);
            x.both(a, b);
            x.partner(a, b);
            x.downwards(a, b);
            x.less(a, b);
            x.look(a, b);
            x.years(a, 3, b);
        }
        x.ways(a);
        x.rich(a);
        x.gifts(a);
        x.ruled(a);
    }

    private static int sum(HillBends x) {
        int sum = 0;
        for (int i = 0; i < 14; i++) {
            sum = sum * 31 + x.count(i);
        }
        for (int p = 0; p < 2; p++) {
            for (int what = 0; what < 10; what++) {
                sum = sum * 31 + x.pilgrim(p, what);
            }
        }
        for (int b = 0; b < 3; b++) {
            for (int what = 0; what < 8; what++) {
                sum = sum * 31 + x.bend(b, what);
            }
        }
        return sum;
    }
}
