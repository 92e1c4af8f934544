/** Boundary sentences of part I of the terms and of promises 1 to 6: the tape, texts, their faults, rules. */
public final class HillBoundsTests {
    private static final int NONE = HillBends.NONE;
    private static final int FAR = Integer.MAX_VALUE;
    private static final int FAR_BELOW = Integer.MIN_VALUE;
    private static final String ONE_OF_EACH = "hill 40;sort 1 0 1;bend 0 0;pilgrim 0;";

    private HillBoundsTests() {
    }

    public static void main(String[] args) {
        newObject();
        feed();
        feedIsRefused();
        end();
        hill();
        hillInPlace();
        hillFault();
        rule();
        ruleFault();
        seventhRule();
        force();
        lengthOfTexts();
        clausesOfHills();
        numbersOfHills();
        toldThings();
        has();
        heap();
        orderTold();
        digits();
        words();
        blanks();
        clausesOfRules();
        depth();
        valuesAndFacts();
        numbersOfRules();
        signs();
        joining();
        arithmetic();
        faultsOfTheEnd();
        faultsOfBytes();
        firstAlongTheText();
        leastOfOnePlace();
        Bounds.close("HillBoundsTests", 1, 6);
    }

    private static int fault(int place, int kind) {
        return Checks.fault(place, kind);
    }

    // ---- promises 1 to 6

    private static void newObject() {
        Bounds.promise(1, "No HILL, no RULES, none IN FORCE.");
        for (int what = 0; what <= 13; what++) {
            Bounds.is("count " + what, new HillBends().count(what), what == 5 ? NONE : 0);
        }
        Bounds.refused("end(0)", HillBends::new, x -> x.end(0), 0);
        Bounds.refused("end(1)", HillBends::new, x -> x.end(1), NONE);
        Bounds.refused("hill of nothing", HillBends::new, x -> x.hill(), fault(0, 0));
        Bounds.refused("rule of nothing", HillBends::new, x -> x.rule(), fault(0, 0));
        Bounds.refused("force(NONE)", HillBends::new, x -> x.force(NONE), NONE);
        Bounds.refused("force(0)", HillBends::new, x -> x.force(0), -2);
        Bounds.refused("pilgrim", HillBends::new, x -> x.pilgrim(0, 0), NONE);
        Bounds.refused("bend", HillBends::new, x -> x.bend(0, 0), NONE);
        Bounds.refused("sort", HillBends::new, x -> x.sort(0, 0), NONE);
        Bounds.refused("night", HillBends::new, x -> x.night(), NONE);
        Bounds.refused("climb", HillBends::new, x -> x.climb(0), NONE);
        Bounds.refused("down", HillBends::new, x -> x.down(0), NONE);
        Bounds.refused("take", HillBends::new, x -> x.take(0, 0), NONE);
        Bounds.refused("buy", HillBends::new, x -> x.buy(0, 0), NONE);
        Bounds.refused("sell", HillBends::new, x -> x.sell(0, 0), NONE);
        Bounds.refused("hand", HillBends::new, x -> x.hand(0, 1, 0), NONE);
        Bounds.refused("undo", HillBends::new, x -> x.undo(), NONE);
        Bounds.refused("back", HillBends::new, x -> x.back(0), NONE);
        Bounds.refused("leaves", HillBends::new, x -> x.leaves(0, 1), NONE);
        Bounds.refused("note", HillBends::new, x -> x.note(0, 0, 0), -2);
        newObjectAsked();
    }

    private static void newObjectAsked() {
        Bounds.refused("reach", HillBends::new, x -> x.reach(0, NONE), -2);
        Bounds.refused("lacks", HillBends::new, x -> x.lacks(0, NONE), -2);
        Bounds.refused("ways", HillBends::new, x -> x.ways(0), NONE);
        Bounds.refused("sure", HillBends::new, x -> x.sure(0, NONE), -2);
        Bounds.refused("bag", HillBends::new, x -> x.bag(0, NONE), -3);
        Bounds.refused("both", HillBends::new, x -> x.both(0, 1), NONE);
        Bounds.refused("partner", HillBends::new, x -> x.partner(0, 0), NONE);
        Bounds.refused("downwards", HillBends::new, x -> x.downwards(0, NONE), -2);
        Bounds.refused("less", HillBends::new, x -> x.less(0, 0), NONE);
        Bounds.refused("rich", HillBends::new, x -> x.rich(0), NONE);
        Bounds.refused("gifts", HillBends::new, x -> x.gifts(NONE), -3);
        Bounds.refused("ruled", HillBends::new, x -> x.ruled(0), -3);
        Bounds.refused("look", HillBends::new, x -> x.look(0, 0), NONE);
        Bounds.refused("years", HillBends::new, x -> x.years(1, 1, 0), NONE);
    }

    private static int feedText(HillBends x, String twenty) {
        int[] n = new int[5];
        for (int i = 0; i < 20; i++) {
            n[i / 4] = n[i / 4] << 8 | twenty.charAt(i);
        }
        return x.feed(n[0], n[1], n[2], n[3], n[4]);
    }

    private static void feed() {
        Bounds.promise(2, "Twenty bytes come behind the TAPE, of each number the highest first: how many it has;");
        HillBends x = new HillBends();
        Bounds.is("twenty", feedText(x, "hill 40;sort 9 30 29"), 20);
        Bounds.is("as a hill", x.hill(), 0);
        Bounds.is("burden", x.count(0), 40);
        Bounds.is("weight", x.sort(0, 0), 9);
        Bounds.is("worth", x.sort(0, 1), 30);
        Bounds.is("price", x.sort(0, 2), 29);
        feedText(x, "hill 40;sort 9 30 29");
        Bounds.is("forty", feedText(x, ";pilgrim 5;sort 1 2 "), 40);
        Bounds.is("sixty", feedText(x, "3;                  "), 60);
        x.end(41);
        Bounds.is("behind one another", x.hill(), 0);
        Bounds.is("sorts", x.count(1), 2);
        Bounds.is("price of the last", x.sort(1, 2), 3);
        x.feed(0xe8696c6c, 0x20390000, 0, 0, 0);
        x.end(6);
        Bounds.is("a byte has eight bits", x.hill(), fault(0, 0));
        x.end(0);
        x.feed(0x68696c6c, 0x203900ff, -1, FAR_BELOW, FAR);
        Bounds.is("numbers far off are bytes, too", x.count(13), 20);
        Bounds.is("of which the seventh is a fault", x.hill(), fault(6, 0));
        x.end(6);
        Bounds.is("and the six ahead of it are none", x.hill(), 0);
    }

    private static HillBends fed(int bytes) {
        HillBends x = new HillBends();
        Checks.tell(x, "hill 9" + " ".repeat(bytes - 6));
        return x;
    }

    private static void feedIsRefused() {
        Bounds.promise(2, "NONE, and none comes, if it would have more than 400.");
        HillBends x = new HillBends();
        for (int n = 20; n <= 400; n += 20) {
            Bounds.is("to " + n, feedText(x, "xxxxxxxxxxxxxxxxxxxx"), n);
        }
        Bounds.is("from 380 to 400", feedText(fed(380), "xxxxxxxxxxxxxxxxxxxx"), 400);
        for (int bytes : new int[] {381, 390, 399, 400}) {
            Bounds.refused("from " + bytes, () -> fed(bytes), y -> feedText(y, "xxxxxxxxxxxxxxxxxxxx"), NONE);
            HillBends y = fed(bytes);
            feedText(y, "xxxxxxxxxxxxxxxxxxxx");
            Bounds.is("bytes", y.count(13), bytes);
            Bounds.is("none came", y.hill(), 0);
            Bounds.is("it takes more then", feedText(y, "xxxxxxxxxxxxxxxxxxxx"), 20);
        }
    }

    private static void end() {
        Bounds.promise(3, "The TAPE has its first n bytes alone: n;");
        HillBends x = fed(20);
        Bounds.is("all", x.end(20), 20);
        Bounds.is("less", x.end(7), 7);
        Bounds.is("bytes", x.count(13), 7);
        feedText(x, ";sort 1 1 1         ");
        Bounds.is("others come behind these", x.count(13), 27);
        Bounds.is("as a hill", x.hill(), 0);
        Bounds.is("sorts", x.count(1), 1);
        Bounds.is("none", fed(20).end(0), 0);
        Bounds.is("all of the most", fed(400).end(400), 400);
        bytesBehindTheEnd();
        Bounds.promise(3, "NONE, and nothing happens, if it has not so many, or n is below 0.");
        for (int n : new int[] {21, 40, 400, 401, FAR, -1, -20, FAR_BELOW}) {
            Bounds.refused("20 bytes, end(" + n + ")", () -> fed(20), y -> y.end(n), NONE);
        }
        Bounds.refused("no bytes, end(1)", HillBends::new, y -> y.end(1), NONE);
        Bounds.refused("400 bytes, end(401)", () -> fed(400), y -> y.end(401), NONE);
        Bounds.refused("bytes that were, end(7)", () -> {
            HillBends y = fed(20);
            y.end(6);
            return y;
        }, y -> y.end(7), NONE);
    }

    /** What is cut off is not read, though it would go on with a word, a number or a sign. */
    private static void bytesBehindTheEnd() {
        HillBends x = new HillBends();
        Checks.tell(x, "hill 39");
        x.end(6);
        Bounds.is("a number that was cut", x.hill(), 0);
        Bounds.is("burden", x.count(0), 3);
        Checks.tell(x, "hill 3;sort 1 1 1");
        x.end(6);
        Bounds.is("clauses that were cut", x.hill(), 0);
        Bounds.is("sorts", x.count(1), 0);
        Checks.tell(x, "ask bends");
        x.end(8);
        Bounds.is("a word that was cut", x.rule(), 0);
        Checks.tell(x, "ask 1 if 1 <= 1");
        x.end(12);
        Bounds.is("a sign that was cut", x.rule(), fault(12, 0));
        Checks.tell(x, "ask 12");
        x.end(4);
        Bounds.is("a number that was cut off", x.rule(), fault(4, 0));
    }

    private static void hill() {
        Bounds.promise(4, "The TAPE, which is empty then, is the HILL in place of the one there was");
        HillBends x = new HillBends();
        Bounds.is("no bends", Checks.hill(x, "hill 1"), 0);
        Bounds.is("tape", x.count(13), 0);
        Bounds.is("empty", x.hill(), fault(0, 0));
        Bounds.is("eight bends", Checks.hill(x, "hill 1;sort 1 0 1" + ";bend 0 0".repeat(8)), 8);
        Bounds.is("bends", x.count(2), 8);
        Bounds.is("a smaller one", Checks.hill(x, "hill 2"), 0);
        Bounds.is("burden", x.count(0), 2);
        Bounds.is("sorts", x.count(1), 0);
        Bounds.is("bends", x.count(2), 0);
        Bounds.is("no sort of the one there was", x.sort(0, 0), NONE);
        Bounds.is("no bend of the one there was", x.bend(0, 0), NONE);
        Bounds.is("heaps and things had are none", Checks.hill(x, ONE_OF_EACH + "has 0 0 2;heap 0 0 3"), 1);
        Bounds.is("the same without them", Checks.hill(x, "hill 40;sort 1 0 1;bend 0 0;pilgrim 0"), 1);
        Bounds.is("had", x.pilgrim(0, 5), 0);
        Bounds.is("lying", x.count(9), 0);
    }

    private static void hillInPlace() {
        Bounds.promise(4, "(NIGHT 0, no NOTES, nothing told to be left, nothing to be UNDONE; the RULE IN FORCE and x stay): how "
                + "many BENDS;");
        HillBends x = Bounds.midway();
        x.end(0);
        Bounds.is("the same text", Checks.hill(x, Checks.SMALL), 3);
        Bounds.is("night", x.count(6), 0);
        Bounds.is("notes", x.count(10), 0);
        Bounds.is("acts", x.count(11), 0);
        Bounds.is("undo", x.undo(), NONE);
        Bounds.is("left of 0", x.leaves(0, 0), 0);
        Bounds.is("left of 1", x.leaves(1, 0), 0);
        Bounds.is("force", x.count(5), 1);
        Bounds.is("rules", x.count(4), 2);
        Bounds.is("x", x.count(12), 7);
        Bounds.is("height", x.pilgrim(0, 0), 0);
        Bounds.is("money", x.pilgrim(0, 1), 20);
        Bounds.is("left", x.pilgrim(0, 2), 0);
        Bounds.is("asked", x.count(7), 0);
        Bounds.is("an image stays", x.back(1), 0);
        Bounds.is("as it was made", x.pilgrim(0, 1), 19);
        HillBends y = Checks.on("hill 9;sort 1 1 1;sort 1 1 1;bend 0 1;heap 0 0 1");
        Checks.rule(y, "ask ones");
        y.note(1, 0, 0);
        Bounds.is("by what lies there", y.ruled(1), 0);
        Checks.hill(y, "hill 9;sort 1 1 1;sort 1 1 1;bend 0 1");
        y.note(1, 0, 0);
        Bounds.is("by what lies there now", y.ruled(1), -2);
    }

    private static void hillFault() {
        Bounds.promise(4, "-2 - its FAULT, and all stays.");
        String[] texts = {"", "hill", "hill 41", "sort 1 1 1", "hill 9;hill 9", "hill 9;sort 1 1 1;bend 0 0;pilgrim 9;x"};
        int[] faults = {fault(0, 0), fault(4, 0), fault(5, 1), fault(0, 4), fault(7, 4), fault(37, 0)};
        for (int i = 0; i < texts.length; i++) {
            String text = texts[i];
            Bounds.refused("hill of '" + text + "'", () -> {
                HillBends x = Bounds.midway();
                Checks.tell(x, text);
                return x;
            }, x -> x.hill(), faults[i]);
        }
        HillBends x = new HillBends();
        Checks.tell(x, "hill 9;sort 1 1 1;bend 0 0;pilgrim 9;x");
        x.hill();
        Bounds.is("the tape", x.end(36), 36);
        Bounds.is("as a hill without its fault", x.hill(), 1);
    }

    private static void rule() {
        Bounds.promise(5, "The TAPE, which is empty then, is a RULE: its number;");
        HillBends x = new HillBends();
        for (int n = 0; n < 6; n++) {
            Bounds.is("its number", Checks.rule(x, "ask " + n), n);
            Bounds.is("tape", x.count(13), 0);
            Bounds.is("rules", x.count(4), n + 1);
        }
        Bounds.is("none is in force", x.count(5), NONE);
        HillBends y = Checks.onSmall();
        Checks.rule(y, "ask 1 - bend");
        Checks.rule(y, "ask bend");
        y.force(0);
        y.night();
        Bounds.is("by the first", y.count(7), 0b100);
        y.force(1);
        y.night();
        Bounds.is("by the second", y.count(7), 0b001);
    }

    private static void ruleFault() {
        Bounds.promise(5, "-2 - its FAULT;");
        HillBends x = new HillBends();
        String[] texts = {"", "ask", "ask 100000", "ask 1;", "ask 1" + ";ask 1".repeat(12)};
        int[] faults = {fault(0, 0), fault(3, 0), fault(4, 1), fault(6, 0), fault(72, 4)};
        for (int i = 0; i < texts.length; i++) {
            Bounds.is("rule of '" + texts[i] + "'", Checks.rule(x, texts[i]), faults[i]);
            Bounds.is("the tape is empty then", x.count(13), 0);
            Bounds.is("no rule", x.count(4), 0);
            Bounds.is("none such", x.force(0), -2);
        }
        String sixty = "ask 1" + "-1".repeat(59);
        for (int i = 0; i < 9; i++) {
            Bounds.is("one value too many", Checks.rule(x, sixty + "+1"), fault(sixty.length() + 1, 3));
            Bounds.is("one clause too many", Checks.rule(x, texts[4]), faults[4]);
        }
        Bounds.is("the first rule behind faults, as long as can be", Checks.rule(x, sixty.replace('-', '+')), 0);
        Bounds.is("the second", Checks.rule(x, sixty), 1);
        Checks.hill(x, Checks.SMALL);
        x.force(1);
        Bounds.is("by the second, its sum is below 0", x.night(), 0b101);
        x.force(0);
        Bounds.is("by the first, its sum is above 0", x.night(), 0b101);
        HillBends y = Bounds.midway();
        Checks.tell(y, "ask 1 if");
        Bounds.is("all else stays at a fault", y.rule(), fault(8, 0));
        Bounds.is("rules", y.count(4), 2);
        Bounds.is("force", y.count(5), 1);
        Bounds.is("acts", y.count(11), 3);
        Bounds.is("night", y.count(6), 1);
    }

    private static HillBends withSixRules(String text) {
        HillBends x = Checks.onSmall();
        for (int i = 0; i < 6; i++) {
            Checks.rule(x, "ask " + i + " - bend");
        }
        x.force(5);
        Checks.tell(x, text);
        return x;
    }

    private static void seventhRule() {
        Bounds.promise(5, "NONE, and nothing happens: there are 6.");
        for (String text : new String[] {"ask 0", "ask", "", "hill 9"}) {
            Bounds.refused("a seventh: '" + text + "'", () -> withSixRules(text), x -> x.rule(), NONE);
            HillBends x = withSixRules(text);
            x.rule();
            Bounds.is("the tape stays", x.count(13), text.length());
            Bounds.is("rules", x.count(4), 6);
            x.night();
            Bounds.is("the sixth is as it was", x.count(7), 0);
        }
    }

    private static void force() {
        Bounds.promise(6, "A RULE is IN FORCE (NONE: none): which was;");
        HillBends x = withSixRules("");
        Bounds.is("5 was", x.force(0), 5);
        Bounds.is("0 was", x.force(5), 0);
        Bounds.is("5 was, and is", x.force(5), 5);
        Bounds.is("5 was", x.force(NONE), 5);
        Bounds.is("none was, and is", x.force(NONE), NONE);
        Bounds.is("none was", x.force(0), NONE);
        Bounds.is("0 is", x.count(5), 0);
        Bounds.promise(6, "-2, and nothing happens, if there is none such.");
        for (int rule : new int[] {6, 7, FAR, -2, -3, FAR_BELOW}) {
            Bounds.refused("of six, " + rule, () -> withSixRules(""), y -> y.force(rule), -2);
        }
        for (int rule : new int[] {2, 5, -2}) {
            Bounds.refused("of two, " + rule, Bounds::midway, y -> y.force(rule), -2);
        }
        Bounds.refused("of none, 0", HillBends::new, y -> y.force(0), -2);
    }

    // ---- terms, part I: the hill's text

    private static void lengthOfTexts() {
        Bounds.term("A HILL is a text of at most 400 bytes: CLAUSE { ; CLAUSE }, 40 at most:");
        HillBends x = new HillBends();
        Bounds.is("400 bytes", Checks.hill(x, "hill 9" + " ".repeat(382) + ";sort 1 2 13"), 0);
        Bounds.is("the last byte counts", x.sort(0, 2), 13);
        Bounds.is("400 bytes of a rule", Checks.rule(x, "ask 0 if 0=1" + " ".repeat(382) + ";ask 1"), 0);
        Checks.hill(x, Checks.SMALL);
        x.force(0);
        x.night();
        Bounds.is("its last byte counts", x.count(7), 0);
        Bounds.hill("hill 9" + " ".repeat(393) + ";", fault(400, 0));
        Bounds.rule("ask 1" + " ".repeat(394) + ";", fault(400, 0));
        Bounds.hill(" ".repeat(399) + "x", fault(399, 0));
        Bounds.hill(" ".repeat(400), fault(400, 0));
        Bounds.rule(" ".repeat(400), fault(400, 0));
        Bounds.rule("[".repeat(400), fault(0, 0));
    }

    /** Forty clauses, in which the fourth pilgrim may have more. */
    private static String forty() {
        return "hill9;sort1 0 1;sort1 0 1" + ";bend0 0".repeat(8) + ";pilgrim9".repeat(4) + ";has0 0 1".repeat(9)
                + ";has1 1 1".repeat(9) + ";has2 0 1".repeat(7);
    }

    private static void clausesOfHills() {
        Bounds.term("CLAUSE { ; CLAUSE }, 40 at most:");
        Bounds.hill(forty(), 8);
        int place = forty().length() + 1;
        Bounds.hill(forty() + ";has3 0 1", fault(place, 4));
        Bounds.hill(forty() + "; has3 0 1", fault(place + 1, 4));
        Bounds.hill(forty() + ";hill9", fault(place, 4));
        Bounds.hill(forty() + ";", fault(place, 0));
        Bounds.hill(forty().substring(0, forty().lastIndexOf(';')) + ";has3 0 1", 8);
        Bounds.hill("hill 9", 0);
        Bounds.term("hill NUMBER (BURDEN 1 to 40, what one can carry; once, the first CLAUSE)");
        Bounds.range("hill ", "", 1, 40);
        Bounds.range("hill ", ";sort 1 0 1", 1, 40);
        Bounds.is("burden", Checks.on("hill 40").count(0), 40);
        Bounds.hill("hill 9;hill 9", fault(7, 4));
        Bounds.hill("hill 9;sort 1 0 1;hill 9", fault(18, 4));
        for (String clause : new String[] {"sort 1 0 1", "bend 0 0", "pilgrim 1", "has 0 0 1", "heap 0 0 1"}) {
            Bounds.hill(clause, fault(0, 4));
            Bounds.hill("  " + clause + ";hill 9", fault(2, 4));
        }
        Bounds.term("4 one CLAUSE too many, a second hill, another CLAUSE ahead of it, a sixth SORT, a ninth BEND, a fifth "
                + "PILGRIM (at its first byte)");
        String[] ahead = {"hill 9" + ";sort 1 0 1".repeat(5), "hill 9;sort 1 0 1" + ";bend 0 0".repeat(8), "hill 9" + ";pilgrim 0".repeat(4)};
        String[] one = {"sort 1 0 1", "bend 0 0", "pilgrim 0"};
        int[] bends = {0, 8, 0};
        for (int i = 0; i < 3; i++) {
            Bounds.hill(ahead[i], bends[i]);
            Bounds.hill(ahead[i] + ";" + one[i], fault(ahead[i].length() + 1, 4));
            Bounds.hill(ahead[i] + "; " + one[i].substring(0, 4), i == 2 ? fault(ahead[i].length() + 2, 0) : fault(ahead[i].length() + 2, 4));
        }
    }

    private static void numbersOfHills() {
        Bounds.term("sort NUMBER NUMBER NUMBER (WEIGHT 1 to 9; WORTH 0 to 30; PRICE 1 to 30)");
        Bounds.range("hill 9;sort ", " 0 1", 1, 9);
        Bounds.range("hill 9;sort 1 ", " 1", 0, 30);
        Bounds.range("hill 9;sort 1 0 ", "", 1, 30);
        HillBends x = Checks.on("hill 9;sort 1 0 1;sort 9 30 30");
        int[] due = {1, 0, 1, 9, 30, 30};
        for (int i = 0; i < 6; i++) {
            Bounds.is("sort " + i / 3 + ", " + i % 3, x.sort(i / 3, i % 3), due[i]);
        }
        Bounds.is("a thing may be too heavy for all", Checks.on("hill 1;sort 9 0 1;pilgrim 99").buy(0, 0), NONE);
        Bounds.term("pilgrim NUMBER (MONEY 0 to 99)");
        Bounds.range("hill 9;pilgrim ", "", 0, 99);
        Bounds.is("least", Checks.on("hill 9;pilgrim 0").pilgrim(0, 1), 0);
        Bounds.is("most", Checks.on("hill 9;pilgrim 99").pilgrim(0, 1), 99);
    }

    private static void toldThings() {
        Bounds.term("bend NUMBER NUMBER (two SORTS that were told, its FIRST and its SECOND; they may be the same)");
        Bounds.hill("hill 9;bend 0 0", fault(12, 1));
        for (int sorts = 1; sorts <= 5; sorts++) {
            String ahead = "hill 9" + ";sort 1 0 1".repeat(sorts) + ";bend ";
            Bounds.range(ahead, " 0", 0, sorts - 1);
            Bounds.range(ahead + "0 ", "", 0, sorts - 1);
            Bounds.hill(ahead + (sorts - 1) + " " + (sorts - 1), 1);
        }
        Bounds.hill("hill 9;sort 1 0 1;bend 0 1;sort 1 0 1", fault(25, 1));
        Bounds.term("has NUMBER NUMBER NUMBER (a PILGRIM, a SORT that were told;");
        Bounds.hill("hill 9;sort 1 0 1;has 0 0 1;pilgrim 1", fault(22, 1));
        Bounds.hill("hill 9;pilgrim 1;has 0 0 1;sort 1 0 1", fault(23, 1));
        for (int n = 1; n <= 4; n++) {
            String ahead = "hill 9" + ";sort 1 0 1".repeat(n) + ";pilgrim 1".repeat(n) + ";has ";
            Bounds.range(ahead, " 0 1", 0, n - 1);
            Bounds.range(ahead + "0 ", " 1", 0, n - 1);
        }
        Bounds.term("heap NUMBER NUMBER NUMBER (a BEND, a SORT that were told;");
        Bounds.hill("hill 9;sort 1 0 1;heap 0 0 1;bend 0 0", fault(23, 1));
        Bounds.hill("hill 9;heap 0 0 1;sort 1 0 1;bend 0 0", fault(12, 1));
        for (int n = 1; n <= 8; n++) {
            String ahead = "hill 9;sort 1 0 1;sort 1 0 1" + ";bend 0 1".repeat(n) + ";heap ";
            Bounds.range(ahead, " 0 1", 0, n - 1);
            Bounds.range(ahead + "0 ", " 1", 0, 1);
        }
    }

    private static void has() {
        Bounds.term("how many, 1 to 4, together not heavier than BURDEN with what was told so far, 9 of a SORT at most)");
        Bounds.range(ONE_OF_EACH + "has 0 0 ", "", 1, 4);
        Bounds.range("hill 9;sort 3 0 1;pilgrim 0;has 0 0 ", "", 1, 3);
        Bounds.range("hill 8;sort 3 0 1;pilgrim 0;has 0 0 ", "", 1, 2);
        Bounds.range("hill 9;sort 9 0 1;pilgrim 0;has 0 0 ", "", 1, 1);
        Bounds.hill("hill 8;sort 9 0 1;pilgrim 0;has 0 0 1", fault(36, 1));
        String two = "sort 2 0 1;sort 3 0 1;pilgrim 0;has 0 1 1;has 0 0 ";
        Bounds.range("hill 9;" + two, "", 1, 3);
        Bounds.range("hill 8;" + two, "", 1, 2);
        Bounds.is("as heavy as can be", Checks.on("hill 9;" + two + "3").pilgrim(0, 4), 9);
        Bounds.hill("hill 4;sort 1 0 1;pilgrim 0;has 0 0 4;has 0 0 1", fault(46, 1));
        Bounds.hill("hill 4;sort 1 0 1;pilgrim 0;pilgrim 0;has 0 0 4;has 1 0 4", 0);
        String eight = ONE_OF_EACH + "has 0 0 4;has 0 0 4;has 0 0 ";
        Bounds.range(eight, "", 1, 1);
        Bounds.is("nine", Checks.on(eight + "1").pilgrim(0, 5), 9);
        Bounds.hill(eight + "1;has 0 0 1", fault(eight.length() + 10, 1));
        Bounds.hill(eight + "1;sort 1 0 1;has 0 1 4;has 0 1 4;has 0 1 1", 1);
        Bounds.range(ONE_OF_EACH + "has 0 0 3;has 0 0 3;has 0 0 ", "", 1, 3);
    }

    private static void heap() {
        Bounds.term("how many lie there, 0 to 9; of the same two the last told, 0 without)");
        Bounds.range(ONE_OF_EACH + "heap 0 0 ", "", 0, 9);
        Bounds.is("9", Checks.on(ONE_OF_EACH + "heap 0 0 9").bend(0, 3), 9);
        Bounds.is("0", Checks.on(ONE_OF_EACH + "heap 0 0 0").bend(0, 3), 0);
        Bounds.is("without", Checks.on(ONE_OF_EACH + "has 0 0 1").bend(0, 3), 0);
        Bounds.is("less, the last", Checks.on(ONE_OF_EACH + "heap 0 0 9;heap 0 0 2").bend(0, 3), 2);
        Bounds.is("none, the last", Checks.on(ONE_OF_EACH + "heap 0 0 9;heap 0 0 0").bend(0, 3), 0);
        Bounds.is("more, the last", Checks.on(ONE_OF_EACH + "heap 0 0 0;heap 0 0 9").bend(0, 3), 9);
        HillBends x = Checks.on("hill 9;sort 1 0 1;sort 1 0 1;bend 0 0;bend 0 0;heap 0 0 1;heap 0 1 2;heap 1 0 3;heap 1 1 4");
        int[] due = {1, 2, 3, 4};
        for (int i = 0; i < 4; i++) {
            Bounds.is("of others another", x.bend(i / 2, 3 + i % 2), due[i]);
        }
        Bounds.is("all", x.count(9), 10);
    }

    private static void orderTold() {
        Bounds.term("SORTS 0 to 4, BENDS 0 to 7, PILGRIMS 0 to 3, in the order told; BEND 0 is the lowest.");
        StringBuilder text = new StringBuilder("hill 9");
        for (int n = 0; n < 8; n++) {
            text.append(n < 5 ? ";sort " + (n + 1) + " " + (n + 2) + " " + (n + 3) : "");
            text.append(";bend ").append(Math.min(n, 4)).append(' ').append(n == 0 ? 0 : Math.min(n, 4) - 1);
            text.append(n < 4 ? ";pilgrim " + (n + 4) : "");
        }
        HillBends x = Checks.on(text + ";has 0 0 1");
        for (int n = 0; n < 8; n++) {
            Bounds.is("weight of " + n, x.sort(n, 0), n < 5 ? n + 1 : NONE);
            Bounds.is("worth of " + n, x.sort(n, 1), n < 5 ? n + 2 : NONE);
            Bounds.is("price of " + n, x.sort(n, 2), n < 5 ? n + 3 : NONE);
            Bounds.is("first of " + n, x.bend(n, 0), Math.min(n, 4));
            Bounds.is("second of " + n, x.bend(n, 1), n == 0 ? 0 : Math.min(n, 4) - 1);
            Bounds.is("money of " + n, x.pilgrim(n, 1), n < 4 ? n + 4 : NONE);
        }
        Bounds.is("no eighth", x.bend(8, 0), NONE);
        x.climb(0);
        Bounds.is("the lowest has it", x.bend(0, 3), 1);
        Bounds.term("It is NIGHT 0; each BEND ASKS for its FIRST; all PILGRIMS are at the foot.");
        HillBends y = Checks.on(text.toString());
        Bounds.is("night", y.count(6), 0);
        Bounds.is("asked", y.count(7), 0);
        for (int n = 0; n < 8; n++) {
            Bounds.is("asked at " + n, y.bend(n, 2), Math.min(n, 4));
            Bounds.is("height of " + n, y.pilgrim(n, 0), n < 4 ? 0 : NONE);
        }
    }

    private static void digits() {
        Bounds.term("VALUE: NUMBER (1 to 5 digits, as far as digits go on) | WORD.");
        Bounds.hill("hill 00009", 0);
        Bounds.hill("hill 000009", fault(5, 1));
        Bounds.hill("hill 99999", fault(5, 1));
        Bounds.hill("hill 4" + "0".repeat(390), fault(5, 1));
        Bounds.hill("hill9;sort1 0 1", 0);
        Bounds.hill("hill 1 0", fault(7, 0));
        Bounds.rule("ask 0", 0);
        Bounds.rule("ask 99999", 0);
        Bounds.rule("ask 00000", 0);
        Bounds.rule("ask 000000", fault(4, 1));
        Bounds.rule("ask 100000", fault(4, 1));
        Bounds.rule("ask 1 + 123456", fault(8, 1));
        Bounds.rule("ask 1 if 123456 = 1", fault(9, 1));
        Bounds.rule("ask 1 if 1 = 123456", fault(13, 1));
        Bounds.rule("ask " + "1".repeat(396), fault(4, 1));
        Bounds.rule("ask 99999 99999", fault(10, 0));
    }

    private static void words() {
        Bounds.term("WORDS (small letters, as far as these go on) of a BEND:");
        String all = "bend first second asks night ones twos heap passed here";
        for (String word : all.split(" ")) {
            Bounds.rule("ask " + word, 0);
            Bounds.rule("ask 1+" + word + "*" + word + " if 1=" + word, 0);
            Bounds.rule("ask " + word + "s", fault(4, 0));
            Bounds.rule("ask " + word.substring(1), fault(4, 0));
            Bounds.rule("ask " + word.substring(0, word.length() - 1), fault(4, 0));
            Bounds.rule("ask 1 " + word, fault(6, 0));
            Bounds.hill("hill " + word, fault(5, 0));
            Bounds.rule("ask " + word.toUpperCase(), fault(4, 0));
        }
        for (String word : "hill sort pilgrim has ask if or and not".split(" ")) {
            Bounds.rule("ask " + word, fault(4, 0));
            Bounds.rule("ask 1 - " + word, fault(8, 0));
        }
        Bounds.rule("askbend", fault(0, 0));
        Bounds.rule("ask 1 ifbend = 1", fault(6, 0));
        Bounds.rule("ask 1if 1=1and 1=1or 1=1", 0);
        for (char letter : new char[] {'a', 'm', 'z'}) {
            Bounds.hill("hill" + letter + " 9", fault(0, 0));
            Bounds.rule("ask" + letter + " 1", fault(0, 0));
            Bounds.rule("ask bend" + letter, fault(4, 0));
        }
        for (char sign : new char[] {'`', '{', 'A', 'Z', '_'}) {
            Bounds.hill("hill" + sign + " 9", fault(4, 0));
            Bounds.rule("ask bend" + sign, fault(8, 0));
        }
    }

    private static void blanks() {
        Bounds.term("Blanks (32) stand between as one likes.");
        Bounds.hill("   hill   9   ;   sort   1   0   1   ", 0);
        Bounds.hill("hill9;sort1 0 1;bend0 0;pilgrim0;has0 0 1;heap0 0 1", 1);
        Bounds.rule("   ask   1   +   bend   if   [   not   1   =   1   ]   ", 0);
        Bounds.rule("ask1+bend*2if[not 1=1]and[1<=2]", 0);
        for (char sign : new char[] {0, 9, 10, 13, 31, 33, 160, 255}) {
            Bounds.hill("hill" + sign + "9", fault(4, 0));
            Bounds.hill("hill 9" + sign, fault(6, 0));
            Bounds.hill(sign + "hill 9", fault(0, 0));
            Bounds.rule("ask" + sign + "1", fault(3, 0));
            Bounds.rule("ask 1" + sign, fault(5, 0));
        }
        Bounds.rule("ask 1 if 1 < = 1", fault(13, 0));
        Bounds.rule("ask 1 if 1 > = 1", fault(13, 0));
        Bounds.rule("as k 1", fault(0, 0));
        Bounds.hill("hi ll 9", fault(0, 0));
    }

    // ---- terms, part I: rules

    /** On a hill of eight bends with two sorts: which bends ask for their first behind a night by a rule. */
    private static int firstsBy(String text) {
        HillBends x = Checks.on("hill 9;sort 1 0 1;sort 1 0 1" + ";bend 0 1".repeat(8));
        Bounds.is("rule of '" + text + "'", Checks.rule(x, text), 0);
        x.force(0);
        x.night();
        return x.count(7) ^ 255;
    }

    private static void by(String text, int due) {
        Bounds.is("firsts by '" + text + "'", firstsBy(text), due);
    }

    private static void clausesOfRules() {
        Bounds.term("RULES 0 to 5: texts likewise, 12 CLAUSES at most: ask SUM [ if TEST ].");
        String eleven = "ask 0 if 0=1;".repeat(11);
        Bounds.rule(eleven + "ask 1", 0);
        Bounds.rule(eleven + "ask 1;ask 1", fault(eleven.length() + 6, 4));
        Bounds.rule(eleven + "ask 1; ask", fault(eleven.length() + 7, 4));
        Bounds.rule(eleven + "ask 1;", fault(eleven.length() + 6, 0));
        Bounds.rule(eleven + "ask 1;if", fault(eleven.length() + 6, 0));
        by(eleven + "ask 1", 255);
        by("ask 1;" + eleven.substring(0, eleven.length() - 1), 255);
        by(eleven + "ask 0", 0);
        by(eleven + "ask 1 if 0=1", 0);
        by(eleven + "ask 1 if bend=7", 128);
        HillBends x = new HillBends();
        for (int n = 0; n < 6; n++) {
            Bounds.is("number", Checks.rule(x, "ask 1"), n);
        }
        Bounds.is("no rule 6", Checks.rule(x, "ask 1"), NONE);
    }

    private static void depth() {
        Bounds.term("[ and not lie within one another 10 deep at most;");
        String ahead = "ask 1 if ";
        by(ahead + "[".repeat(10) + "bend=1" + "]".repeat(10), 0b10);
        by(ahead + "not ".repeat(10) + "bend=1", 0b10);
        by(ahead + "not ".repeat(9) + "bend=1", 255 - 0b10);
        by(ahead + "not[".repeat(5) + "bend=1" + "]".repeat(5), 255 - 0b10);
        by(ahead + "not ".repeat(10) + "bend=1 and " + "not ".repeat(9) + "bend=2 or " + "[".repeat(10) + "bend=3" + "]".repeat(10), 0b1010);
        Bounds.term("2 too deep (at the sign that opens, or the word not);");
        Bounds.rule(ahead + "[".repeat(11) + "1=1" + "]".repeat(11), fault(19, 2));
        Bounds.rule(ahead + "not ".repeat(11) + "1=1", fault(49, 2));
        Bounds.rule(ahead + "not ".repeat(10) + "[1=1]", fault(49, 2));
        Bounds.rule(ahead + "[".repeat(10) + "not 1=1" + "]".repeat(10), fault(19, 2));
        Bounds.rule(ahead + "1=1 and " + "[".repeat(11), fault(27, 2));
        Bounds.rule(ahead + "[".repeat(9) + "[1=1]and[1=1]" + "]".repeat(9), 0);
        Bounds.rule(ahead + "[".repeat(9) + "[1=1]and[[1=1]]" + "]".repeat(9), fault(27, 2));
        Bounds.rule("ask 1 if " + "not ".repeat(10) + "1=1;ask 1 if " + "not ".repeat(10) + "1=1", 0);
    }

    private static void valuesAndFacts() {
        Bounds.term("at most 60 VALUES (of SUMS) and FACTS made of a SIGN, together.");
        String sixty = "ask 1" + "-1".repeat(59);
        int behind = sixty.length() + 1;
        Bounds.rule(sixty, 0);
        by(sixty, 0);
        by("ask 1" + "+1".repeat(59), 255);
        Bounds.term("3 one VALUE or FACT too many (at its first byte; of a FACT at its SIGN);");
        Bounds.rule(sixty + "+1", fault(behind, 3));
        Bounds.rule(sixty + " + bend", fault(behind + 2, 3));
        Bounds.rule(sixty + ";ask 1", fault(behind + 4, 3));
        Bounds.rule(sixty + " if 1=1", fault(behind + 3, 3));
        String sums = "ask 1" + "+1".repeat(56);
        Bounds.rule(sums + " if 1=1", 0);
        Bounds.rule(sums + "+1 if 1=1", fault(sums.length() + 8, 3));
        Bounds.rule(sums + "+1+1 if 1=1", fault(sums.length() + 9, 3));
        Bounds.rule(sums + "+1+1 if 1<=1", fault(sums.length() + 9, 3));
        Bounds.rule(sums + "+1+1+1 if 1=1", fault(sums.length() + 10, 3));
        String facts = "ask 1 if 1=1" + " and 1=1".repeat(18);
        Bounds.rule(facts + " or 1=1", fault(facts.length() + 6, 3));
        Bounds.rule(facts, 0);
        Bounds.rule(facts + ";ask 1", 0);
        Bounds.rule(facts + ";ask 1+1", 0);
        Bounds.rule(facts + ";ask 1+1+1", fault(facts.length() + 9, 3));
        Bounds.rule("ask 1 if not[not[1=1]]" + " or [1=1]".repeat(18) + ";ask 1+1", 0);
    }

    private static void numbersOfRules() {
        Bounds.term("ASKS for its FIRST, if the SUM of its first CLAUSE without a TEST, or whose TEST holds (0 without), is "
                + "above 0, else for its SECOND;");
        by("ask 1", 255);
        by("ask 0", 0);
        by("ask 0 - 1", 0);
        by("ask bend", 254);
        by("ask 3 - bend", 0b111);
        by("ask 65536 * 65536", 255);
        by("ask 1 if 0 = 1", 0);
        by("ask 1 if 1 = 1", 255);
        by("ask 0 if bend = 1; ask 1", 255 - 0b10);
        by("ask 1 if bend = 1; ask 0; ask 1", 0b10);
        by("ask 0 if bend < 4; ask 1 if bend < 6", 0b110000);
        by("ask 1; ask 0 if 1 = 1", 255);
    }

    private static void signs() {
        Bounds.term("SUM SIGN SUM, SIGN one of < <= = >= >.");
        by("ask 1 if bend < 3", 0b111);
        by("ask 1 if bend <= 3", 0b1111);
        by("ask 1 if bend = 3", 0b1000);
        by("ask 1 if bend >= 3", 0b11111000);
        by("ask 1 if bend > 3", 0b11110000);
        by("ask 1 if 0-bend < 0-3", 0b11110000);
        by("ask 1 if 65536*65536 = 0", 0);
        by("ask 1 if 65536*65536+bend > 65536*65536", 254);
        by("ask 1 if bend<3", 0b111);
        by("ask 1 if bend<=3", 0b1111);
        by("ask 1 if bend=3", 0b1000);
        by("ask 1 if bend>=3", 0b11111000);
        by("ask 1 if bend>3", 0b11110000);
        for (String sign : new String[] {"<", "<=", "=", ">=", ">"}) {
            Bounds.rule("ask 1 if 1 " + sign, fault(11 + sign.length(), 0));
            Bounds.rule("ask " + sign + " 1", fault(4, 0));
            Bounds.rule("ask 1 " + sign + " 1", fault(6, 0));
            Bounds.rule("ask 1 if " + sign + " 1", fault(9, 0));
            Bounds.rule("ask 1 if 1 = " + sign, fault(13, 0));
            Bounds.rule("ask 1 + " + sign, fault(8, 0));
            Bounds.hill("hill " + sign, fault(5, 0));
            Bounds.hill("hill 9;sort " + sign + " 1 1", fault(12, 0));
        }
        Bounds.rule("ask 1 if 1 == 1", fault(12, 0));
        Bounds.rule("ask 1 if 1 =< 1", fault(12, 0));
        Bounds.rule("ask 1 if 1 => 1", fault(12, 0));
        Bounds.rule("ask 1 if 1 <> 1", fault(12, 0));
        Bounds.rule("ask 1 if 1 < 1 < 1", fault(15, 0));
        Bounds.rule("ask 1 if 1", fault(10, 0));
        Bounds.rule("ask 1 if [1] = 1", fault(11, 0));
    }

    private static void joining() {
        Bounds.term("TEST: PART { or PART }. PART: FACT { and FACT }. FACT: not FACT | [ TEST ] (these brackets are signs)");
        by("ask 1 if bend=1 or bend=2 and bend=3", 0b10);
        by("ask 1 if bend=1 and bend=2 or bend=3", 0b1000);
        by("ask 1 if [bend=1 or bend=2] and bend=2", 0b100);
        by("ask 1 if bend=2 and [bend=1 or bend=2]", 0b100);
        by("ask 1 if not bend=1 and bend<3", 0b101);
        by("ask 1 if not [bend=1 or bend=2] and bend<4", 0b1001);
        by("ask 1 if bend<1 or bend=2 or bend>6", 0b10000101);
        by("ask 1 if bend>0 and bend<7 and not bend=3 and bend>1", 0b01110100);
        by("ask 1 if bend=1 or not bend>2 and not bend=0 or bend=7", 0b10000110);
        String[] ofThree = {"bend=3", "bend<4", "bend<=3", "not bend<3 and bend<=3", "[bend>=3] and bend<=3", "bend>2"};
        for (String one : ofThree) {
            for (String other : ofThree) {
                by("ask 1 if " + one + " and " + other + " and bend=3", 0b1000);
                by("ask 1 if bend=3 and " + one + " and " + other + " or bend=7 and " + one + " and bend=3", 0b1000);
                by("ask 1 if " + one + " and bend>0 and " + other + " and bend>2 and bend<4", 0b1000);
            }
        }
        Bounds.rule("ask 1 if", fault(8, 0));
        Bounds.rule("ask 1 if [", fault(10, 0));
        Bounds.rule("ask 1 if []", fault(10, 0));
        Bounds.rule("ask 1 if [1=1", fault(13, 0));
        Bounds.rule("ask 1 if 1=1]", fault(12, 0));
        Bounds.rule("ask 1 if 1=1 and", fault(16, 0));
        Bounds.rule("ask 1 if 1=1 or and 1=1", fault(16, 0));
        Bounds.rule("ask 1 if not", fault(12, 0));
        Bounds.rule("ask [1]", fault(4, 0));
        Bounds.rule("ask 1 if [1=1] [1=1]", fault(15, 0));
    }

    private static void arithmetic() {
        Bounds.term("/ is towards 0, % its rest, both 0 by 0; all goes round in 64 bits.");
        by("ask 5 / 0", 0);
        by("ask 5 / 0 + 1", 255);
        by("ask 5 % 0", 0);
        by("ask 5 % 0 + 1", 255);
        by("ask 1 if 7 / bend = 0", 0b1);
        by("ask 1 if 7 % bend = 0", 0b10000011);
        by("ask 1 if 7 / 2 = 3 and 7 % 2 = 1 and 0 / 7 = 0 and 0 % 7 = 0", 255);
        by("ask 1 if 7 / 7 = 1 and 7 / 8 = 0 and 7 % 8 = 7", 255);
        by("ask 1 if 99999*99999*99999*10000 < 0", 255);
        by("ask 1 if 99999*99999*99999*10000/99999/99999/99999 = 0-8447", 255);
        by("ask 1 if 99999*99999*99999*10000%7 = 0-5", 255);
        // 2 to the power of 63 is the least of all, 2 to the power of 64 is 0.
        by("ask 1 if 65536*65536*65536*32768 < 0 and 65536*65536*65536*32768-1 > 0", 255);
        by("ask 65536*65536*65536*32768", 0);
        by("ask 65536*65536*65536*32768-1", 255);
        by("ask 1 if 65536*65536*65536*65536 = 0", 255);
        by("ask 1 if 65536*65536*65536*32768*2+1 = 1", 255);
        Bounds.term("SUM: TERM { (+ or -) TERM }. TERM: VALUE { (* or / or %) VALUE }.");
        by("ask 1 if 9-3-2=4 and 9-3+2=8 and 2+3*4=14 and 2*3+4=10", 255);
        by("ask 1 if 7*3/2=10 and 7/2*3=9 and 7%4*2=6 and 9-8/4-1=6", 255);
        Bounds.rule("ask +1", fault(4, 0));
        Bounds.rule("ask -1", fault(4, 0));
        Bounds.rule("ask 1+", fault(6, 0));
        Bounds.rule("ask 1+-1", fault(6, 0));
        Bounds.rule("ask 1**1", fault(6, 0));
    }

    // ---- terms, part I: faults

    private static void faultsOfTheEnd() {
        Bounds.term("0 a byte or WORD that can't stand there, or the end (behind the last byte);");
        String whole = ONE_OF_EACH + "has 0 0 1;heap 0 0 1;";
        for (int length = 0; length <= whole.length(); length++) {
            String cut = whole.substring(0, length);
            int due = isWhole(cut) ? (cut.contains("bend 0 0") ? 1 : 0) : endFault(cut);
            Bounds.is("hill of '" + cut + "'", Checks.hill(new HillBends(), cut), due);
        }
        Bounds.hill("   ", fault(3, 0));
        Bounds.hill("hill   ", fault(7, 0));
        Bounds.hill("hill 9 ;  ", fault(10, 0));
        Bounds.rule("   ", fault(3, 0));
        Bounds.rule("ask   ", fault(6, 0));
        Bounds.rule("ask 1 ;  ", fault(9, 0));
        Bounds.rule("ask 1 if 1 =   ", fault(15, 0));
    }

    /** Whether what was cut from the text of one of each ends behind a clause. */
    private static boolean isWhole(String cut) {
        String last = cut.substring(cut.lastIndexOf(';') + 1);
        return last.matches("hill \\d+|sort \\d \\d \\d|bend \\d \\d|pilgrim \\d|has \\d \\d \\d|heap \\d \\d \\d");
    }

    /** Behind the last byte, but for a word that was cut, which is wrong at its first byte. */
    private static int endFault(String cut) {
        String last = cut.substring(cut.lastIndexOf(';') + 1);
        boolean wordWasCut = last.matches("[a-z]+") && !last.matches("hill|sort|bend|pilgrim|has|heap");
        return fault(wordWasCut ? cut.length() - last.length() : cut.length(), 0);
    }

    private static void faultsOfBytes() {
        Bounds.term("FAULTS, the first along the text, 1 + 8 * its place and:");
        Bounds.is("the least", Checks.hill(new HillBends(), "x"), -3);
        Bounds.is("kind 4 at 0", Checks.hill(new HillBends(), "sort"), -7);
        Bounds.is("kind 1 at 5", Checks.hill(new HillBends(), "hill 0"), -2 - (1 + 8 * 5 + 1));
        Bounds.is("the end of the longest", Checks.hill(new HillBends(), "hill" + " ".repeat(396)), -2 - (1 + 8 * 400));
        String signs = "!\"#$&'(),.:?@ABZ\\^_`{|}~";
        for (int i = 0; i < signs.length(); i++) {
            Bounds.hill("hill 9" + signs.charAt(i), fault(6, 0));
            Bounds.rule("ask 1" + signs.charAt(i), fault(5, 0));
            Bounds.rule("ask " + signs.charAt(i) + "1", fault(4, 0));
        }
        for (char sign : "[]+-*/%<=>".toCharArray()) {
            Bounds.hill("hill 9" + sign, fault(6, 0));
            Bounds.hill("hill " + sign + "9", fault(5, 0));
            Bounds.rule(sign + "ask 1", fault(0, 0));
        }
        for (int n = 0; n <= 20; n++) {
            Bounds.rule(n + " 1", fault(0, 0));
            Bounds.rule("ask 1 " + n + " 1=1", fault(6, 0));
            Bounds.rule("ask 1 if 1=1 " + n + " 1=1", fault(13, 0));
            Bounds.rule("ask 1 if [1=1 " + n + " 1=1]", fault(14, 0));
            Bounds.hill(n + " 1", fault(0, 0));
            Bounds.hill("hill 9;" + n + " 1 1 1", fault(7, 0));
        }
        Bounds.rule("ask 1;;ask 1", fault(6, 0));
        Bounds.hill("hill 9;;sort 1 0 1", fault(7, 0));
        Bounds.hill(";hill 9", fault(0, 0));
    }

    private static void firstAlongTheText() {
        Bounds.term("FAULTS, the first along the text");
        Bounds.hill("hill 0;hill 9", fault(5, 1));
        Bounds.hill("hill 9;hill 0", fault(7, 4));
        Bounds.hill("hill 9;sort 0 99 x", fault(12, 1));
        Bounds.hill("hill 9;sort 1 x 0", fault(14, 0));
        Bounds.hill("sort 0", fault(0, 4));
        Bounds.rule("ask 123456 x", fault(4, 1));
        Bounds.rule("ask x 123456", fault(4, 0));
        Bounds.rule("ask 1 if " + "[".repeat(11) + "123456", fault(19, 2));
        Bounds.rule("ask 1 if " + "[".repeat(10) + "123456", fault(19, 1));
        Bounds.rule("ask 1" + "+1".repeat(60) + ";ask 1 x", fault(124, 3));
        Bounds.rule("ask 1" + ";ask 1".repeat(12) + "+123456", fault(72, 4));
        Bounds.term("1 a NUMBER of more digits, or not as told (of has the number of things, if they would be too many or too "
                + "heavy);");
        Bounds.hill("hill 1;sort 2 0 1;pilgrim 0;has 0 0 1 x", fault(36, 1));
        Bounds.hill("hill 1;sort 2 0 1;pilgrim 0;has 0 1 1", fault(34, 1));
    }

    private static void leastOfOnePlace() {
        Bounds.term("Of one place the least.");
        String sixty = "ask 1" + "+1".repeat(59);
        Bounds.rule(sixty + "+123456", fault(sixty.length() + 1, 1));
        Bounds.rule(sixty + "+x", fault(sixty.length() + 1, 0));
        Bounds.rule("ask 1 123456", fault(6, 0));
        Bounds.hill("hill 9 123456", fault(7, 0));
        Bounds.hill(forty() + ";hut3 0 1", fault(forty().length() + 1, 0));
        Bounds.hill(forty() + ";ask", fault(forty().length() + 1, 0));
        Bounds.rule("ask 1" + ";ask 1".repeat(11) + ";asks 1", fault(72, 0));
        Bounds.rule("ask 1 if " + "[".repeat(10) + "]", fault(19, 0));
    }
}
