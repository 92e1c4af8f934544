import java.io.IOException;
import java.io.UncheckedIOException;
import java.nio.file.Files;
import java.nio.file.Path;
import java.util.ArrayList;
import java.util.List;
import java.util.TreeSet;

/**
 * Tests of sentences: each is quoted ahead of its checks, and must stand in the document as it is quoted; a quote
 * without a check is a failure. A refused call is made on one of two objects with the same past; then both must answer
 * alike.
 */
final class Bounds {
    /** Makes an object with a past, the same one at each call. */
    interface Start {
        HillBends make();
    }

    interface Call {
        int on(HillBends x);
    }

    private static final int NONE = HillBends.NONE;
    private static final Path DOCUMENT = Path.of("../shared/DOC.md");
    private static final TreeSet<Integer> PROMISES = new TreeSet<>();
    private static String sentence = "";
    private static int checksOfSentence;

    private Bounds() {
    }

    /** The checks from here on hold a sentence of the document's terms. */
    static void term(String quoted) {
        said("Terms", quoted);
    }

    /** The checks from here on hold a sentence of a promise. */
    static void promise(int number, String quoted) {
        PROMISES.add(number);
        said("Promise " + number + ":", quoted);
    }

    /** The checks from here on hold a sentence that stands under a heading with such a begin. */
    static void said(String heading, String quoted) {
        endSentence();
        sentence = quoted;
        checksOfSentence = 0;
        if (hasDocument()) {
            Checks.holds("stands under " + heading + " " + quoted, section(heading).contains(quoted));
        }
    }

    private static void endSentence() {
        Checks.holds("a check behind '" + sentence + "'", sentence.isEmpty() || checksOfSentence > 0);
    }

    /** What the document says under a heading with such a begin. */
    static String section(String heading) {
        String text = document();
        int from = text.indexOf("\n## " + heading);
        int to = from < 0 ? from : text.indexOf("\n## ", from + 1);
        return from < 0 ? "" : text.substring(from, to < 0 ? text.length() : to);
    }

    /** Answers can be held without the document, quotes can't. */
    static boolean hasDocument() {
        return Files.exists(DOCUMENT);
    }

    static String document() {
        try {
            return Files.readString(DOCUMENT);
        } catch (IOException e) {
            throw new UncheckedIOException("the tests quote " + DOCUMENT, e);
        }
    }

    static void is(String what, int got, int due) {
        checksOfSentence++;
        Checks.is("'" + sentence + "', " + what, got, due);
    }

    static void holds(String what, boolean is) {
        is(what, is ? 1 : 0, 1);
    }

    static void close(String name, int firstPromise, int lastPromise) {
        for (int n = firstPromise; n <= lastPromise; n++) {
            Checks.holds("a sentence of promise " + n, PROMISES.contains(n));
        }
        close(name);
    }

    static void close(String name) {
        endSentence();
        if (!hasDocument()) {
            System.out.println(name + ": NO QUOTE WAS HELD AGAINST THE DOCUMENT, " + DOCUMENT + " is not there");
        }
        Checks.close(name);
    }

    // ---- texts

    /** What a text answers as a hill on a new object. */
    static void hill(String text, int due) {
        HillBends x = new HillBends();
        is("hill of '" + text + "'", Checks.hill(x, text), due);
        is("tape behind '" + text + "'", x.count(13), due >= 0 ? 0 : text.length());
        is("whether '" + text + "' is a hill", x.rich(0) == NONE ? 0 : 1, due >= 0 ? 1 : 0);
    }

    /** What a text answers as a rule on a new object. */
    static void rule(String text, int due) {
        HillBends x = new HillBends();
        is("rule of '" + text + "'", Checks.rule(x, text), due);
        is("tape behind '" + text + "'", x.count(13), 0);
        is("rules behind '" + text + "'", x.count(4), due >= 0 ? 1 : 0);
    }

    /** In a hill's text the least and the most number of a place are taken, those beyond are faults of kind 1. */
    static void range(String ahead, String behind, int least, int most) {
        for (int n = Math.max(0, least - 1); n <= most + 1; n++) {
            HillBends x = new HillBends();
            int got = Checks.hill(x, ahead + n + behind);
            if (n < least || n > most) {
                is(n + " in '" + ahead + n + behind + "'", got, Checks.fault(ahead.length(), 1));
            } else {
                is(n + " taken in '" + ahead + n + behind + "'", got < 0 ? got : 0, 0);
            }
        }
        hill(ahead + "100000" + behind, Checks.fault(ahead.length(), 1));
        hill(ahead + "00000" + most + behind, Checks.fault(ahead.length(), 1));
    }

    // ---- calls by which nothing happens

    /** A hill with two rules, one in force, an image, acts to be undone, something told, and a text on the tape. */
    static HillBends midway() {
        HillBends x = Checks.onSmall();
        Checks.rule(x, "ask 1");
        Checks.rule(x, "ask ones - twos");
        x.seed(7);
        x.leaves(0, 1);
        x.leaves(1, 1);
        x.note(1, 0, 0);
        x.buy(0, 2);
        x.image(1);
        x.climb(0);
        x.force(1);
        x.night();
        Checks.tell(x, "hill 7;sort 1 1 1;bend 0 0");
        return x;
    }

    /** A call answers what is due, and later calls answer as if it had not been made. */
    static void refused(String what, Start start, Call call, int due) {
        HillBends x = start.make();
        is(what, call.on(x), due);
        List<Integer> got = probe(x);
        List<Integer> before = probe(start.make());
        is(what + ": how much is answered then", got.size(), before.size());
        for (int i = 0; i < Math.min(got.size(), before.size()); i++) {
            is(what + ": nothing happens, answer " + i, got.get(i), before.get(i));
        }
    }

    /** Of what is asked, with an answer that is told elsewhere: nothing changes. */
    static void unchanged(String what, Start start, Call call) {
        refused(what, start, call, call.on(start.make()));
    }

    /** All that is to be seen of an object, and then of what it goes back to; it is used up by this. */
    private static List<Integer> probe(HillBends x) {
        List<Integer> seen = new ArrayList<>();
        counts(seen, x);
        things(seen, x);
        questions(seen, x);
        for (int sort = 0; sort < 5; sort++) {
            seen.add(x.leaves(sort, 0));
        }
        for (int i = 0; i < 21; i++) {
            seen.add(x.undo());
            seen.add(x.count(6));
            seen.add(x.count(7));
            seen.add(x.pilgrim(0, 1) + x.pilgrim(0, 0));
        }
        for (int k = 0; k < 4; k++) {
            seen.add(x.back(k));
            seen.add(x.pilgrim(0, 1));
            seen.add(x.force(NONE));
            seen.add(x.note(0, 0, 0));
        }
        seen.add(x.hill());
        counts(seen, x);
        return seen;
    }

    private static void counts(List<Integer> seen, HillBends x) {
        for (int what = 0; what < 14; what++) {
            seen.add(x.count(what));
        }
    }

    private static void things(List<Integer> seen, HillBends x) {
        for (int pilgrim = 0; pilgrim < x.count(3); pilgrim++) {
            for (int what = 0; what < 10; what++) {
                seen.add(x.pilgrim(pilgrim, what));
            }
            seen.add(x.ways(pilgrim));
        }
        for (int bend = 0; bend < x.count(2); bend++) {
            for (int what = 0; what < 8; what++) {
                seen.add(x.bend(bend, what));
            }
        }
        for (int sort = 0; sort < x.count(1); sort++) {
            for (int what = 0; what < 3; what++) {
                seen.add(x.sort(sort, what));
            }
        }
    }

    private static void questions(List<Integer> seen, HillBends x) {
        for (int what = 0; what < 2; what++) {
            seen.add(x.rich(what));
            seen.add(x.ruled(what));
            seen.add(x.look(1, what));
            seen.add(x.look(60, what));
            seen.add(x.years(2, 3, what));
        }
        seen.add(x.gifts(NONE));
        seen.add(x.gifts(0));
        seen.add(x.gifts(10));
    }
}
