import java.lang.reflect.InvocationTargetException;
import java.lang.reflect.Method;
import java.lang.reflect.Modifier;
import java.util.ArrayList;
import java.util.Comparator;
import java.util.List;
import java.util.Random;

/** What the document says of the whole: its first sentence part by part, how long an object is used, what is free. */
public final class WholeTests {
    private static final int NONE = HillBends.NONE;
    private static final String WHAT_IT_IS = "What it is";
    private static final String NOT_PROMISED = "Not promised";
    /** Sorts 2 5 4, 3 9 6, 1 1 1; bends 0 or 1, 1, 2 or 0; one has a thing of sort 0, the other one 1 of 1 and 2 of 2. */
    private static final String SMALL = Checks.SMALL;

    private WholeTests() {
    }

    public static void main(String[] args) throws Exception {
        somethingIsLeft();
        bendsAndThings();
        pilgrims();
        climbsByHand();
        nightsByRules();
        whatOneNeeds();
        sharing();
        comingDown();
        lessAndLeast();
        whatWasLeft();
        whichRule();
        years();
        goneBackTo();
        callsOfAnObject();
        whatIsFree();
        severalThreads();
        laterCalls();
        Bounds.close("WholeTests");
    }

    // ---- what it is

    private static void somethingIsLeft() {
        Bounds.said(WHAT_IT_IS, "Something must be left at each turn:");
        HillBends x = Checks.on(SMALL);
        Bounds.is("up", x.climb(0), 1);
        Bounds.is("it is left", x.pilgrim(0, 5), 0);
        Bounds.is("it lies there", x.bend(0, 3), 1);
        Bounds.is("left", x.pilgrim(0, 2), 1);
        Bounds.is("with nothing to leave", x.climb(0), NONE);
    }

    private static void bendsAndThings() {
        Bounds.said(WHAT_IT_IS, "a hill, told in a language, of bends that each ask for one of two sorts of things,");
        HillBends x = Checks.on(SMALL);
        int[][] asked = {{0, 1, 2}, {1, 1, 0}};
        for (int night = 0; night < 5; night++) {
            for (int bend = 0; bend < 3; bend++) {
                Bounds.is("in night " + night + " bend " + bend, x.bend(bend, 2), asked[night % 2][bend]);
                Bounds.is("of these two", x.bend(bend, night % 2), asked[night % 2][bend]);
            }
            x.night();
        }
        Bounds.said(WHAT_IT_IS, "of things by weight, worth and price at the foot,");
        HillBends y = Checks.on(SMALL);
        int[] due = {2, 5, 4};
        for (int what = 0; what < 3; what++) {
            Bounds.is("of sort 0, " + what, y.sort(0, what), due[what]);
        }
        Bounds.is("by its price", y.buy(0, 0), 16);
        Bounds.is("by its weight", y.pilgrim(0, 4), 4);
        Bounds.is("by its worth", y.rich(1), 26);
        y.climb(0);
        Bounds.is("not above the foot", y.buy(0, 0), NONE);
    }

    private static void pilgrims() {
        Bounds.said(WHAT_IT_IS, "of pilgrims with money and what they have;");
        HillBends x = Checks.on(SMALL);
        int[][] due = {{0, 20, 0, 0, 2, 1, 0, 0, 0, 0}, {0, 5, 0, 0, 5, 0, 1, 2, 0, 0}};
        for (int pilgrim = 0; pilgrim < 2; pilgrim++) {
            for (int what = 0; what < 10; what++) {
                Bounds.is("of " + pilgrim + ", " + what, x.pilgrim(pilgrim, what), due[pilgrim][what]);
            }
        }
    }

    private static void climbsByHand() {
        Bounds.said(WHAT_IT_IS, "climbs by hand, on which something is left at each bend, things bought, handed on, taken coming "
                + "down by who left more;");
        HillBends x = Checks.on(SMALL);
        Bounds.is("bought", x.buy(0, 1), 14);
        Bounds.is("up", x.climb(0), 1);
        Bounds.is("up again", x.climb(0), 2);
        Bounds.is("left at the lower one", x.bend(0, 3), 1);
        Bounds.is("left at the higher one", x.bend(1, 4), 1);
        Bounds.is("taken", x.take(0, 1), 1);
        Bounds.is("down", x.down(0), 1);
        Bounds.is("taken again", x.take(0, 1), 2);
        Bounds.is("as many as left", x.take(0, 0), NONE);
        Bounds.is("at the foot", x.down(0), 0);
        Bounds.is("handed on", x.hand(0, 1, 1), 2);
        Bounds.is("sold", x.sell(0, 1), 17);
    }

    private static void nightsByRules() {
        Bounds.said(WHAT_IT_IS, "nights, in which bends turn by rules told in a language;");
        HillBends x = Checks.on(SMALL);
        Checks.rule(x, "ask ones - twos");
        Checks.rule(x, "ask bend");
        x.force(0);
        Bounds.is("no bend has more of its first", x.night(), 0b101);
        x.force(1);
        Bounds.is("all but the lowest", x.night(), 0b100);
        x.force(NONE);
        Bounds.is("without a rule", x.night(), 0b101);
    }

    private static void whatOneNeeds() {
        HillBends x = Checks.on(SMALL);
        Bounds.said(WHAT_IT_IS, "how far one comes,");
        Bounds.is("with one thing", x.reach(0, NONE), 1);
        Bounds.is("not at all", x.reach(1, NONE), 0);
        Bounds.said(WHAT_IT_IS, "what is lacking,");
        int[] lacking = {0, 1, 1};
        for (int sort = 0; sort < 3; sort++) {
            Bounds.is("of " + sort, x.lacks(0, sort), lacking[sort]);
        }
        Bounds.is("price", x.lacks(0, NONE), 7);
        // One of each sort more would be by all 8 ways, but weighs 9 where 8 can be carried.
        Bounds.said(WHAT_IT_IS, "what to buy so that one is up by most of all that bends can ask,");
        int[] bought = {0, 2, 1};
        for (int sort = 0; sort < 3; sort++) {
            Bounds.is("of " + sort, x.bag(0, sort), bought[sort]);
        }
        Bounds.is("ways", x.bag(0, NONE), 6);
        Bounds.is("price", x.bag(0, -2), 13);
        Bounds.said(WHAT_IT_IS, "how sure,");
        Bounds.is("by no way", x.ways(0), 0);
        x.buy(0, 1);
        x.buy(0, 1);
        x.buy(0, 2);
        Bounds.is("by six of eight", x.ways(0), 6);
    }

    private static void sharing() {
        Bounds.said(WHAT_IT_IS, "who had better share,");
        HillBends x = Checks.on("hill 9;sort 1 1 1;bend 0 0;pilgrim 0;pilgrim 0;pilgrim 0;has 2 0 2");
        Bounds.is("with one who has nothing", x.both(0, 1), 0);
        Bounds.is("with one who has two", x.both(0, 2), 2);
        Bounds.is("who", x.partner(0, 0), 2);
        Bounds.is("how many", x.partner(0, 1), 2);
    }

    private static void comingDown() {
        Bounds.said(WHAT_IT_IS, "what to take coming down,");
        HillBends x = Checks.on(SMALL);
        x.climb(0);
        int[] taken = {0, 1, 0};
        for (int sort = 0; sort < 3; sort++) {
            Bounds.is("of " + sort, x.downwards(0, sort), taken[sort]);
        }
        Bounds.is("worth", x.downwards(0, NONE), 9);
    }

    private static void lessAndLeast() {
        Bounds.said(WHAT_IT_IS, "what is the least sure to bring one up,");
        HillBends x = Checks.on(SMALL);
        int[] more = {1, 2, 1};
        for (int sort = 0; sort < 3; sort++) {
            Bounds.is("of " + sort, x.sure(0, sort), more[sort]);
        }
        Bounds.is("price", x.sure(0, NONE), 17);
        Bounds.said(WHAT_IT_IS, "what a bend less would do,");
        x.buy(0, 1);
        Bounds.is("which", x.less(0, 0), 0);
        Bounds.is("how many", x.less(0, 1), 2);
    }

    private static void whatWasLeft() {
        Bounds.said(WHAT_IT_IS, "what each bend had from one,");
        HillBends x = Checks.on(SMALL);
        for (int sort = 0; sort < 3; sort++) {
            x.leaves(sort, 1);
        }
        Bounds.is("rows", x.gifts(NONE), 1);
        for (int bend = 0; bend < 3; bend++) {
            Bounds.is("can have had " + bend, x.gifts(bend), 1 << bend);
            Bounds.is("had " + bend, x.gifts(10 + bend), bend);
        }
    }

    private static void whichRule() {
        Bounds.said(WHAT_IT_IS, "by which rule heaps that were told came and where to look next,");
        HillBends x = Checks.on(SMALL);
        Checks.rule(x, "ask ones - twos");
        Checks.rule(x, "ask 1");
        x.note(1, 0, 1);
        Bounds.is("by none and by one", x.ruled(0), 2);
        Bounds.is("the first is none", x.ruled(1), NONE);
        Bounds.is("in night 1 nothing parts them", x.look(1, 1), 2);
        Bounds.is("in night 2 the lowest does", x.look(2, 0), 0);
        Bounds.is("one each", x.look(2, 1), 1);
        x.note(2, 0, 1);
        Bounds.is("by one", x.ruled(0), 1);
        Bounds.is("by rule 0", x.ruled(1), 0);
    }

    private static void years() {
        Bounds.said(WHAT_IT_IS, "years by draws;");
        // The rests by 4 of the draws from 0 on are 0 0 0 1: in the second night the second one climbs.
        HillBends x = Checks.on(SMALL);
        Bounds.is("one night", x.years(1, 1, 0), 0);
        Bounds.is("two nights", x.years(1, 2, 0), 1);
        Bounds.is("things", x.years(1, 2, 1), 1);
    }

    private static void goneBackTo() {
        Bounds.said(WHAT_IT_IS, "acts undone;");
        HillBends x = Checks.on(SMALL);
        x.climb(0);
        Bounds.is("undone", x.undo(), 0);
        Bounds.is("at the foot", x.pilgrim(0, 0), 0);
        Bounds.is("with what was had", x.pilgrim(0, 5), 1);
        Bounds.said(WHAT_IT_IS, "images gone back to. ==== I.");
        x.image(0);
        x.climb(0);
        x.night();
        Bounds.is("back", x.back(0), 0);
        Bounds.is("at the foot again", x.pilgrim(0, 0), 0);
        Bounds.is("nothing lies there but what was told", x.count(9), 2);
    }

    // ---- how long an object is used

    private static void callsOfAnObject() {
        Bounds.said(WHAT_IT_IS, "An object is used for at most 512 calls after it has been made; what later calls answer is free.");
        HillBends x = new HillBends();
        String text = "hill 9;sort 1 0 1;sort 1 0 1;bend 0 1";
        Checks.tell(x, text);
        int calls = 2 + (text.length() + 19) / 20;
        Bounds.is("bends", x.hill(), 1);
        calls++;
        int nights = 0;
        while (calls < 511) {
            nights++;
            calls++;
            Bounds.is("night " + nights, x.night(), 1);
        }
        Bounds.is("the 512th call", x.count(6), nights);
    }

    private static List<Method> face() {
        List<Method> face = new ArrayList<>();
        for (Method method : HillBends.class.getDeclaredMethods()) {
            if (Modifier.isPublic(method.getModifiers())) {
                face.add(method);
            }
        }
        face.sort(Comparator.comparing(Method::getName));
        return face;
    }

    /** Answers of calls by a seed, mostly with small numbers; a call that throws is a failure. */
    private static List<Integer> answers(HillBends x, int seed, int calls) {
        Random random = new Random(seed);
        List<Method> face = face();
        List<Integer> answers = new ArrayList<>();
        for (int i = 0; i < calls; i++) {
            Method method = face.get(random.nextInt(face.size()));
            Object[] arguments = new Object[method.getParameterCount()];
            for (int k = 0; k < arguments.length; k++) {
                arguments[k] = random.nextInt(8) == 0 ? random.nextInt() : random.nextInt(5) - 1;
            }
            try {
                answers.add((Integer) method.invoke(x, arguments));
            } catch (InvocationTargetException | IllegalAccessException e) {
                Checks.holds(method + " of " + List.of(arguments) + " answers: " + e.getCause(), false);
            }
        }
        return answers;
    }

    // ---- what is not promised

    private static void whatIsFree() {
        Bounds.said(NOT_PROMISED, "How the state is held inside the object is free, as are the speed of each call, the text of "
                + "toString and the behaviour of equals and hashCode.");
        Bounds.unchanged("toString", Bounds::midway, x -> x.toString() == null ? 0 : 1);
        Bounds.unchanged("hashCode", Bounds::midway, x -> x.hashCode() == x.hashCode() ? 1 : 0);
        Bounds.unchanged("equals", Bounds::midway, x -> x.equals(x) ? 1 : 0);
    }

    /** One object in several threads is free, several objects are not: nothing is shared among these. */
    private static void severalThreads() throws InterruptedException {
        Bounds.said(NOT_PROMISED, "Use of one object from several threads at once is not promised to be safe.");
        int threads = 4;
        List<List<Integer>> got = new ArrayList<>();
        List<Thread> running = new ArrayList<>();
        for (int i = 0; i < threads; i++) {
            int seed = i;
            List<Integer> answers = new ArrayList<>();
            HillBends x = Bounds.midway();
            got.add(answers);
            running.add(new Thread(() -> answers.addAll(answers(x, seed, 400))));
        }
        for (Thread thread : running) {
            thread.start();
        }
        for (Thread thread : running) {
            thread.join();
        }
        for (int i = 0; i < threads; i++) {
            Bounds.holds("an object of its own, " + i, got.get(i).equals(answers(Bounds.midway(), i, 400)));
        }
    }

    private static void laterCalls() {
        Bounds.said(NOT_PROMISED, "Nothing is promised beyond the answers and state changes described above, and nothing about an "
                + "object after its 512th call.");
        for (int seed = 0; seed < 40; seed++) {
            List<Integer> answers = answers(Bounds.midway(), seed, 5000);
            Bounds.is("calls that answered, by " + seed, answers.size(), 5000);
            Bounds.holds("the same calls, the same answers, by " + seed, answers.equals(answers(Bounds.midway(), seed, 5000)));
        }
    }
}
