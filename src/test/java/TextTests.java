/** Promises 1 to 6: the tape, the texts of the hill and of the rules, and their faults. */
public final class TextTests {
    private static final int NONE = HillBends.NONE;

    private TextTests() {
    }

    public static void main(String[] args) {
        promise1NewObject();
        promise2Feed();
        promise3End();
        promise4Hill();
        hillFaultsOfKind0();
        hillFaultsOfKind1();
        hillFaultsOfKind4();
        promise5Rule();
        ruleFaultsOfKinds0And1();
        ruleFaultsOfDepth();
        ruleFaultsOfUse();
        promise6Force();
        Checks.close("TextTests");
    }

    private static void promise1NewObject() {
        HillBends x = new HillBends();
        Checks.is("NONE", HillBends.NONE, -1);
        for (int what = 0; what <= 13; what++) {
            Checks.is("new count " + what, x.count(what), what == 5 ? NONE : 0);
        }
        Checks.is("new night", x.night(), NONE);
        Checks.is("new pilgrim", x.pilgrim(0, 0), NONE);
        Checks.is("new force", x.force(0), -2);
        Checks.is("new undo", x.undo(), NONE);
        Checks.is("new back", x.back(0), NONE);
        HillBends y = Checks.onSmall();
        Checks.is("objects of their own", x.count(2), 0);
        Checks.is("objects of their own", y.count(2), 3);
    }

    private static void promise2Feed() {
        HillBends x = new HillBends();
        for (int i = 1; i <= 20; i++) {
            Checks.is("feed " + i, x.feed(0x68696c6c, 0x20393b73, 0x6f727420, 0x31203020, 0x31202020), 20 * i);
        }
        Checks.is("feed 21", x.feed(0, 0, 0, 0, 0), NONE);
        Checks.is("bytes stay", x.count(13), 400);
        Checks.is("to 381", x.end(381), 381);
        Checks.is("feed beyond", x.feed(0, 0, 0, 0, 0), NONE);
        Checks.is("to 380", x.end(380), 380);
        Checks.is("feed to the brim", x.feed(0, 0, 0, 0, 0), 400);
        x.end(20);
        Checks.is("the highest byte first", x.hill(), 0);
        Checks.is("sort of it", x.sort(0, 0), 1);
        x.feed(0x68696c6c, 0x20390080, -1, 0, 0);
        x.end(10);
        Checks.is("bytes above 127", x.hill(), Checks.fault(6, 0));
        x.end(6);
        Checks.is("and without them", x.hill(), 0);
    }

    private static void promise3End() {
        HillBends x = new HillBends();
        Checks.is("end 0 of none", x.end(0), 0);
        Checks.is("end 1 of none", x.end(1), NONE);
        x.feed(0x68696c6c, 0x20390000, 0, 0, 0);
        Checks.is("end 21", x.end(21), NONE);
        Checks.is("end below", x.end(-1), NONE);
        Checks.is("end least", x.end(Integer.MIN_VALUE), NONE);
        Checks.is("all bytes", x.count(13), 20);
        Checks.is("end 20", x.end(20), 20);
        Checks.is("end 6", x.end(6), 6);
        Checks.is("six bytes", x.count(13), 6);
        Checks.is("end 7 then", x.end(7), NONE);
        Checks.is("these are told", x.hill(), 0);
    }

    private static void promise4Hill() {
        HillBends x = new HillBends();
        Checks.is("small", Checks.hill(x, Checks.SMALL), 3);
        Checks.is("tape empty", x.count(13), 0);
        Checks.is("least", Checks.hill(x, "hill 1"), 0);
        Checks.is("no sorts", x.count(1), 0);
        Checks.is("no heaps", x.count(9), 0);
        Checks.is("blanks as one likes", Checks.hill(x, "  hill9 ;sort1 0 1;sort 2 0 2  ;bend0 1 ; pilgrim7 "), 1);
        Checks.is("its second", x.bend(0, 1), 1);
        Checks.is("leading noughts", Checks.hill(x, "hill 00040;sort 09 00030 0030;pilgrim 0099"), 0);
        Checks.is("burden", x.count(0), 40);
        Checks.is("worth", x.sort(0, 1), 30);
        Checks.is("money", x.pilgrim(0, 1), 99);
        Checks.is("the last heap told", Checks.hill(x, "hill 9;sort 1 0 1;bend 0 0;heap 0 0 9;heap 0 0 0;heap 0 0 3"), 1);
        Checks.is("it is 3", x.bend(0, 3), 3);
        Checks.is("has adds", Checks.hill(x, "hill 9;sort 1 0 1;pilgrim 1;has 0 0 4;has 0 0 4;has 0 0 1"), 0);
        Checks.is("it is 9", x.pilgrim(0, 5), 9);
        hillInPlaceOfAnother();
        hillFaultLeavesAll();
    }

    private static void hillInPlaceOfAnother() {
        HillBends x = Checks.onSmall();
        Checks.rule(x, "ask 1");
        x.force(0);
        x.seed(77);
        x.leaves(0, 3);
        x.note(1, 0, 0);
        x.night();
        x.climb(0);
        Checks.is("another", Checks.hill(x, Checks.SMALL), 3);
        Checks.is("night", x.count(6), 0);
        Checks.is("notes", x.count(10), 0);
        Checks.is("to be undone", x.count(11), 0);
        Checks.is("undo", x.undo(), NONE);
        Checks.is("told to be left", x.leaves(0, 0), 0);
        Checks.is("force stays", x.count(5), 0);
        Checks.is("rules stay", x.count(4), 1);
        Checks.is("x stays", x.count(12), 77);
        Checks.is("height", x.pilgrim(0, 0), 0);
        Checks.is("left", x.pilgrim(0, 2), 0);
        Checks.is("asks", x.bend(0, 2), 0);
    }

    private static void hillFaultLeavesAll() {
        HillBends x = Checks.onSmall();
        x.climb(0);
        x.leaves(1, 2);
        x.note(1, 0, 0);
        Checks.is("fault", Checks.hill(x, "hill 20;sort 9 9 9;pilgrim 3;x"), Checks.fault(29, 0));
        Checks.is("the tape stays", x.count(13), 30);
        Checks.is("burden stays", x.count(0), 10);
        Checks.is("sorts stay", x.sort(0, 0), 2);
        Checks.is("pilgrims stay", x.count(3), 2);
        Checks.is("height stays", x.pilgrim(0, 0), 1);
        Checks.is("notes stay", x.count(10), 1);
        Checks.is("acts stay", x.count(11), 1);
        Checks.is("told stays", x.leaves(1, 0), 2);
        x.end(28);
        Checks.is("mended", x.hill(), 0);
        Checks.is("burden", x.count(0), 20);
    }

    private static void hillFault(String text, int place, int kind) {
        HillBends x = new HillBends();
        Checks.is("hill of '" + text + "'", Checks.hill(x, text), Checks.fault(place, kind));
        Checks.is("no hill of '" + text + "'", x.rich(0), NONE);
        Checks.is("the tape of '" + text + "' stays", x.count(13), text.length());
    }

    private static void hillFaultsOfKind0() {
        hillFault("", 0, 0);
        hillFault("   ", 3, 0);
        hillFault("hill", 4, 0);
        hillFault("hill  ", 6, 0);
        hillFault("hills 9", 0, 0);
        hillFault("hil 9", 0, 0);
        hillFault("Hill 9", 0, 0);
        hillFault(" 9", 1, 0);
        hillFault("ask 1", 0, 0);
        hillFault("hill x", 5, 0);
        hillFault("hill hill", 5, 0);
        hillFault("hill -1", 5, 0);
        hillFault("hill 9 9", 7, 0);
        hillFault("hill 9sort 1 0 1", 6, 0);
        hillFault("hill 9;", 7, 0);
        hillFault("hill 9; ", 8, 0);
        hillFault("hill 9;;", 7, 0);
        hillFault("hill 9,sort", 6, 0);
        hillFault("hill\t9", 4, 0);
        hillFault("hill 9\u0000", 6, 0);
        hillFault("hill 9;sort 1 0", 15, 0);
        hillFault("hill 9;sort 1;", 13, 0);
        hillFault("hill 9;sort 1 0 1 5", 18, 0);
        hillFault("hill 9;first 1", 7, 0);
        hillFault("hill 9;sort 1 0 1;bend 0", 24, 0);
        hillFault("hill 9 123456", 7, 0);
        hillFault("hill 9;has", 10, 0);
    }

    private static void hillFaultsOfKind1() {
        hillFault("hill 0", 5, 1);
        hillFault("hill 41", 5, 1);
        hillFault("hill 000009", 5, 1);
        hillFault("hill 123456 x", 5, 1);
        hillFault("hill 99999999999999999999", 5, 1);
        hillFault("hill 9;sort 0 0 1", 12, 1);
        hillFault("hill 9;sort 10 0 1", 12, 1);
        hillFault("hill 9;sort 1 31 1", 14, 1);
        hillFault("hill 9;sort 1 0 0", 16, 1);
        hillFault("hill 9;sort 1 0 31", 16, 1);
        hillFault("hill 9;bend 0 0", 12, 1);
        hillFault("hill 9;sort 1 0 1;bend 0 1", 25, 1);
        hillFault("hill 9;sort 1 0 1;bend 0 1;sort 1 0 1", 25, 1);
        hillFault("hill 9;pilgrim 100", 15, 1);
        hillFault("hill 9;has 0 0 1", 11, 1);
        hillFault("hill 9;pilgrim 0;has 0 0 1", 23, 1);
        hillFault("hill 9;sort 5 0 1;pilgrim 0;has 0 0 2", 36, 1);
        hillFault("hill 9;sort 1 0 1;pilgrim 0;has 0 0 0", 36, 1);
        hillFault("hill 9;sort 1 0 1;pilgrim 0;has 0 0 5", 36, 1);
        hillFault("hill 9;sort 1 0 1;pilgrim 0;has 1 0 1", 32, 1);
        hillFault("hill 9;sort 2 0 1;pilgrim 0;has 0 0 4;has 0 0 1", 46, 1);
        hillFault("hill 40;sort 1 0 1;pilgrim 0;has 0 0 4;has 0 0 4;has 0 0 2", 57, 1);
        hillFault("hill 9;heap 0 0 1", 12, 1);
        hillFault("hill 9;sort 1 0 1;bend 0 0;heap 0 0 10", 36, 1);
        hillFault("hill 9;sort 1 0 1;bend 0 0;heap 0 1 1", 34, 1);
        hillFault("hill 9;sort 1 0 1;bend 0 0;heap 1 0 1", 32, 1);
    }

    private static void hillFaultsOfKind4() {
        hillFault("sort 1 0 1", 0, 4);
        hillFault("  heap 0 0 1;hill 9", 2, 4);
        hillFault("hill 9;hill 9", 7, 4);
        hillFault("hill 9; hill x", 8, 4);
        String sort = ";sort 1 0 1";
        String five = "hill 9" + sort.repeat(5);
        HillBends x = new HillBends();
        Checks.is("five sorts", Checks.hill(x, five), 0);
        hillFault(five + sort, five.length() + 1, 4);
        String eight = "hill 9;sort 1 0 1" + ";bend 0 0".repeat(8);
        Checks.is("eight bends", Checks.hill(x, eight), 8);
        hillFault(eight + ";bend 0 0", eight.length() + 1, 4);
        String four = "hill 9" + ";pilgrim 0".repeat(4);
        Checks.is("four pilgrims", Checks.hill(x, four), 0);
        hillFault(four + ";pilgrim 0", four.length() + 1, 4);
        String forty = "hill 9;sort1 0 1;bend0 0;pilgrim0" + ";heap0 0 1".repeat(36);
        Checks.is("its length", forty.length(), 393);
        Checks.is("forty clauses", Checks.hill(x, forty), 1);
        String shorter = "hill9;sort1 0 1;sort1 0 1;bend0 0;bend0 0;bend0 0;bend0 0;bend0 0;bend0 0;bend0 0;bend0 0"
                + ";pilgrim9;pilgrim9;pilgrim9;pilgrim9" + ";has0 0 1".repeat(9) + ";has1 1 1".repeat(9)
                + ";has2 0 1".repeat(7);
        Checks.is("forty by has", Checks.hill(x, shorter), 8);
        hillFault(shorter + ";has3 0 1", shorter.length() + 1, 4);
        hillFault(shorter + ";hat3 0 1", shorter.length() + 1, 0);
        hillFault(shorter + ";", shorter.length() + 1, 0);
    }

    private static void promise5Rule() {
        HillBends x = new HillBends();
        Checks.is("rule 0", Checks.rule(x, "ask 1"), 0);
        Checks.is("tape empty", x.count(13), 0);
        Checks.is("a fault", Checks.rule(x, "ask"), Checks.fault(3, 0));
        Checks.is("no rule more", x.count(4), 1);
        Checks.is("rule 1", Checks.rule(x, "  ask1if[not bend=0]and night>=2or heap<=1 ; ask bend*2-first/second%asks  "), 1);
        Checks.is("rule 2", Checks.rule(x, "ask ones+twos-passed*here;ask 00009 if 0 < 1"), 2);
        Checks.is("rule 3", Checks.rule(x, "ask 99999" + ";ask 0".repeat(11)), 3);
        Checks.is("rule 4", Checks.rule(x, "ask 1"), 4);
        Checks.is("rule 5", Checks.rule(x, "ask 1"), 5);
        Checks.is("six", Checks.rule(x, "ask 1"), NONE);
        Checks.is("nothing happens", x.count(13), 5);
        Checks.is("six are there", x.count(4), 6);
        Checks.is("six, and a fault", Checks.rule(x, "ask"), NONE);
        Checks.is("nothing happens at a fault, too", x.count(13), 3);
        HillBends y = new HillBends();
        Checks.is("a rule needs no hill", Checks.rule(y, "ask 1"), 0);
        Checks.is("fault", Checks.rule(y, "ask 1x"), Checks.fault(5, 0));
        Checks.is("the tape is empty at a fault", y.count(13), 0);
        Checks.is("nothing to be mended", y.end(5), NONE);
        Checks.is("behind a fault", Checks.rule(y, "ask 1"), 1);
        for (int i = 0; i < 9; i++) {
            Checks.is("a long fault", Checks.rule(y, "ask 1" + "+1".repeat(60)), Checks.fault(124, 3));
            Checks.is("a fault of clauses", Checks.rule(y, "ask 1;ask 2;ask 3;ask 4;"), Checks.fault(24, 0));
        }
        Checks.is("and none", Checks.rule(y, "ask 0-1 if bend=0;ask 1" + "+1".repeat(50)), 2);
        Checks.hill(y, Checks.SMALL);
        y.force(2);
        Checks.is("by it", y.night(), 0b001);
    }

    private static void ruleFault(String text, int place, int kind) {
        HillBends x = new HillBends();
        Checks.is("rule of '" + text + "'", Checks.rule(x, text), Checks.fault(place, kind));
        Checks.is("no rule of '" + text + "'", x.count(4), 0);
        Checks.is("no tape behind '" + text + "'", x.count(13), 0);
        Checks.is("an empty text", x.rule(), Checks.fault(0, 0));
    }

    private static void ruleFaultsOfKinds0And1() {
        ruleFault("", 0, 0);
        ruleFault("ask", 3, 0);
        ruleFault("ask ", 4, 0);
        ruleFault("asks 1", 0, 0);
        ruleFault("hill 9", 0, 0);
        ruleFault("1", 0, 0);
        ruleFault("ask x", 4, 0);
        ruleFault("ask -1", 4, 0);
        ruleFault("ask 1;", 6, 0);
        ruleFault("ask 1 if", 8, 0);
        ruleFault("ask 1 if ;", 9, 0);
        ruleFault("ask 1 if heap = 1]", 17, 0);
        ruleFault("ask 5 %", 7, 0);
        ruleFault("ask 1 2", 6, 0);
        ruleFault("ask bend1", 8, 0);
        ruleFault("ask 1 and 2 = 2", 6, 0);
        ruleFault("ask 1 < 2", 6, 0);
        ruleFault("ask [1]", 4, 0);
        ruleFault("ask 1 if bend", 13, 0);
        ruleFault("ask 1 if bend;", 13, 0);
        ruleFault("ask 1 if bend < = 1", 16, 0);
        ruleFault("ask 1 if bend == 1", 15, 0);
        ruleFault("ask 1 if bend => 1", 15, 0);
        ruleFault("ask 1 if bend <> 1", 15, 0);
        ruleFault("ask 1 if bend ! 1", 14, 0);
        ruleFault("ask 1 if [bend = 1", 18, 0);
        ruleFault("ask 1 if [bend = 1;", 18, 0);
        ruleFault("ask 1 if [bend] = 1", 14, 0);
        ruleFault("ask 1 if [] ", 10, 0);
        ruleFault("ask 1 if not", 12, 0);
        ruleFault("ask 1 if notbend = 1", 9, 0);
        ruleFault("ask 1 if bend = 1 and", 21, 0);
        ruleFault("ask 1 if bend = 1 or or", 21, 0);
        ruleFault("ask 1 if bend = 1 if bend = 1", 18, 0);
        ruleFault("ask pilgrim", 4, 0);
        ruleFault("ask Bend", 4, 0);
        ruleFault("ask 123456", 4, 1);
        ruleFault("ask 1+000000 x", 6, 1);
        ruleFault("ask 1 123456", 6, 0);
        ruleFault("ask 1" + ";ask 1".repeat(12), 72, 4);
        ruleFault("ask 1" + ";ask 1".repeat(11) + ";as 1", 72, 0);
    }

    private static void ruleFaultsOfDepth() {
        HillBends x = new HillBends();
        Checks.is("ten deep", Checks.rule(x, "ask 1 if " + "[".repeat(10) + "1=1" + "]".repeat(10)), 0);
        Checks.is("ten not", Checks.rule(x, "ask 1 if " + "not ".repeat(10) + "1=1"), 1);
        Checks.is("mixed", Checks.rule(x, "ask 1 if " + "not [".repeat(5) + "1=1" + "]".repeat(5) + "and [ not 1 = 1]"), 2);
        Checks.is("beside", Checks.rule(x, "ask 1 if not not not not not not 1=1 and not not not not not not 1=1"), 3);
        ruleFault("ask 1 if " + "[".repeat(11) + "1=1" + "]".repeat(11), 19, 2);
        ruleFault("ask 1 if " + "not ".repeat(11) + "1=1", 49, 2);
        ruleFault("ask 1 if " + "not[".repeat(5) + "not 1=1" + "]".repeat(5), 29, 2);
        ruleFault("ask 1 if " + "not ".repeat(10) + "[", 49, 2);
        ruleFault("ask 1 if " + "[".repeat(10) + "]", 19, 0);
    }

    private static void ruleFaultsOfUse() {
        HillBends x = new HillBends();
        String sixty = "ask 1" + "+1".repeat(59);
        Checks.is("sixty values", Checks.rule(x, sixty), 0);
        ruleFault(sixty + "+1", sixty.length() + 1, 3);
        ruleFault(sixty + "+123456", sixty.length() + 1, 1);
        ruleFault(sixty + "+x", sixty.length() + 1, 0);
        ruleFault(sixty + "; ask bend", sixty.length() + 6, 3);
        String upToSign = "ask 1" + "+1".repeat(57) + " if 1";
        Checks.is("59 and a sign", Checks.fault(upToSign.length() + 1, 3), Checks.rule(x, upToSign + "=1"));
        ruleFault(sixty.substring(0, sixty.length() - 2) + " if 1 = 1", sixty.length() + 4, 3);
        String whole = "ask 1" + "+1".repeat(56) + " if 1=1";
        Checks.is("57 and a fact of three", Checks.rule(x, whole), 1);
        Checks.is("no more", Checks.rule(x, whole + ";ask 1"), Checks.fault(whole.length() + 5, 3));
    }

    private static void promise6Force() {
        HillBends x = new HillBends();
        Checks.is("none to none", x.force(NONE), NONE);
        Checks.is("no such", x.force(0), -2);
        Checks.rule(x, "ask 1");
        Checks.rule(x, "ask 0");
        Checks.is("0", x.force(0), NONE);
        Checks.is("1", x.force(1), 0);
        Checks.is("no such", x.force(2), -2);
        Checks.is("no such", x.force(-2), -2);
        Checks.is("1 stays", x.count(5), 1);
        Checks.is("none", x.force(NONE), 1);
        Checks.is("none is", x.count(5), NONE);
    }
}
