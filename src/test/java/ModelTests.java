import java.util.Random;

/** Runs of 512 calls by seeds, each answer held against the plain model. */
public final class ModelTests {
    private static final int RUNS = 1500;
    private static final int CALLS = 512;
    /** To empty the tape, to feed 400 bytes, to cut, to read. */
    private static final int CALLS_OF_A_TEXT = 23;
    private static final String[] WORDS = {"bend", "first", "second", "asks", "night", "ones", "twos", "heap", "passed", "here"};
    private static final String[] SIGNS = {"<", "<=", "=", ">=", ">"};
    private static final String STRAY = ";[]+-*/%<=> 0123456789 abdefhiknoprst!A\u0000\u00ff";

    private final Random random;
    private final HillBends x = new HillBends();
    private final HillModel model = new HillModel();
    private final int run;
    private int calls;
    private static long wrong;
    private static final int[] ASKED = new int[37];
    private static final int[] GIVEN = new int[37];

    private ModelTests(int run) {
        this.run = run;
        random = new Random(run * 7919L + 17);
    }

    public static void main(String[] args) {
        for (int run = 0; run < RUNS; run++) {
            new ModelTests(run).go();
        }
        Checks.is("answers that differ from the model's", (int) wrong, 0);
        for (int call = 1; call < 37; call++) {
            Checks.holds("call " + call + " was often made, with answers of both kinds",
                    ASKED[call] > 500 && GIVEN[call] > 100);
        }
        Checks.close("ModelTests");
    }

    private void go() {
        if (random.nextInt(30) != 0) {
            tell(hill(), true);
        }
        while (calls < CALLS) {
            int kind = random.nextInt(100);
            boolean roomForText = calls + CALLS_OF_A_TEXT <= CALLS;
            if (kind < 2 && roomForText) {
                tell(hill(), true);
            } else if (kind < 7 && roomForText) {
                tell(rule(), false);
            } else {
                call(random.nextInt(37));
            }
        }
        Checks.is("calls of run " + run, calls, CALLS);
    }

    private void answer(int call, String what, int got, int due) {
        calls++;
        ASKED[call]++;
        GIVEN[call] += got >= 0 ? 1 : 0;
        if (got != due) {
            wrong++;
            if (wrong < 20) {
                System.out.println("run " + run + " call " + calls + " " + what + " answered " + got + ", the model " + due);
            }
        }
    }

    // ---- texts

    private String blanks() {
        return random.nextInt(12) == 0 ? " ".repeat(1 + random.nextInt(2)) : "";
    }

    private int below(int n) {
        return random.nextInt(Math.max(1, n));
    }

    private String clause(String word, int... numbers) {
        StringBuilder text = new StringBuilder(blanks()).append(word);
        for (int n : numbers) {
            text.append(' ').append(blanks()).append(n);
        }
        return text.append(blanks()).toString();
    }

    private String hill() {
        int sorts = random.nextInt(8) == 0 ? random.nextInt(7) : 1 + random.nextInt(5);
        int bends = random.nextInt(20) == 0 ? random.nextInt(10) : 1 + random.nextInt(8);
        int pilgrims = random.nextInt(20) == 0 ? random.nextInt(6) : 1 + random.nextInt(4);
        int burden = random.nextInt(3) == 0 ? 1 + random.nextInt(40) : 15 + random.nextInt(26);
        StringBuilder text = new StringBuilder(clause("hill", burden));
        for (int i = 0; i < sorts; i++) {
            int weight = 1 + (random.nextInt(3) == 0 ? random.nextInt(9) : random.nextInt(3));
            text.append(';').append(clause("sort", weight, random.nextInt(random.nextInt(4) == 0 ? 31 : 5), 1 + random.nextInt(random.nextInt(4) == 0 ? 30 : 6)));
        }
        for (int i = 0; i < bends; i++) {
            text.append(';').append(clause("bend", below(sorts), below(sorts)));
        }
        for (int i = 0; i < pilgrims; i++) {
            text.append(';').append(clause("pilgrim", random.nextInt(100)));
        }
        int weights = burden / 4;
        for (int i = random.nextInt(16); i > 0; i--) {
            if (random.nextBoolean() && weights > 0) {
                text.append(';').append(clause("has", below(pilgrims), below(sorts), 1 + random.nextInt(3)));
                weights--;
            } else {
                text.append(';').append(clause("heap", below(bends), below(sorts), random.nextInt(10)));
            }
        }
        return spoilt(text.toString(), 8);
    }

    private String value() {
        int kind = random.nextInt(20);
        if (kind < 12) {
            return WORDS[random.nextInt(WORDS.length)];
        }
        return "" + (kind < 17 ? random.nextInt(5) : kind < 19 ? random.nextInt(100000) : 99999);
    }

    private String sum() {
        StringBuilder text = new StringBuilder(value());
        for (int i = random.nextInt(random.nextInt(5) + 1); i > 0; i--) {
            text.append(blanks()).append("+-*/%".charAt(random.nextInt(5))).append(blanks()).append(value());
        }
        return text.toString();
    }

    private String fact(int depth) {
        int kind = random.nextInt(10);
        if (depth > 0 && kind == 0) {
            return "not " + fact(depth - 1);
        }
        if (depth > 0 && kind == 1) {
            return "[" + blanks() + test(depth - 1) + "]";
        }
        return sum() + blanks() + SIGNS[random.nextInt(5)] + blanks() + sum();
    }

    private String test(int depth) {
        StringBuilder text = new StringBuilder(fact(depth));
        while (random.nextInt(5) < 2) {
            text.append(random.nextBoolean() ? " and " : " or ").append(fact(depth));
        }
        return text.toString();
    }

    private String rule() {
        StringBuilder text = new StringBuilder();
        if (random.nextInt(40) == 0) {
            text.append("ask 1 if ");
            for (int i = 8 + random.nextInt(4); i > 0; i--) {
                text.append(random.nextBoolean() ? "not " : "[");
            }
            text.append("1 = 1");
            text.append("]".repeat(random.nextInt(9)));
            return text.toString();
        }
        int clauses = random.nextInt(20) == 0 ? 14 : 1 + random.nextInt(4);
        for (int i = 0; i < clauses; i++) {
            text.append(i == 0 ? "" : ";").append(blanks()).append("ask ").append(clauses == 14 ? value() : sum());
            if (random.nextInt(3) > 0 && clauses < 14) {
                text.append(" if ").append(test(4));
            }
        }
        return spoilt(text.toString(), 8);
    }

    /** One time in some a byte is put in, put out or put elsewhere. */
    private String spoilt(String text, int some) {
        StringBuilder spoilt = new StringBuilder(text);
        while (random.nextInt(some) == 0 && spoilt.length() > 0) {
            int at = random.nextInt(spoilt.length());
            char sign = STRAY.charAt(random.nextInt(STRAY.length()));
            switch (random.nextInt(4)) {
                case 0: spoilt.setCharAt(at, sign); break;
                case 1: spoilt.insert(at, sign); break;
                case 2: spoilt.deleteCharAt(at); break;
                default: spoilt.setLength(at); break;
            }
        }
        return spoilt.length() > 400 ? spoilt.substring(0, 400) : spoilt.toString();
    }

    private void tell(String text, boolean isHill) {
        answer(2, "end(0)", x.end(0), model.end(0));
        for (int from = 0; from < text.length(); from += 20) {
            int[] n = new int[5];
            for (int i = 0; i < 20; i++) {
                int sign = from + i < text.length() ? text.charAt(from + i) : random.nextInt(256);
                n[i / 4] = n[i / 4] << 8 | sign;
            }
            answer(1, "feed", x.feed(n[0], n[1], n[2], n[3], n[4]), model.feed(n));
        }
        answer(2, "end(" + text.length() + ")", x.end(text.length()), model.end(text.length()));
        if (isHill) {
            answer(3, "hill of " + text, x.hill(), model.hill());
        } else {
            answer(4, "rule of " + text, x.rule(), model.rule());
        }
    }

    // ---- calls

    private int some(int from, int to) {
        int kind = random.nextInt(60);
        if (kind == 0) {
            return random.nextInt();
        }
        return kind < 6 ? from - 1 + random.nextInt(to - from + 3) : from + random.nextInt(to - from + 1);
    }

    private int pilgrim() {
        return some(0, Math.max(0, model.count(3) - 1));
    }

    private int sort() {
        return some(0, Math.max(0, model.count(1) - 1));
    }

    private int bend() {
        return some(0, Math.max(0, model.count(2) - 1));
    }

    private void call(int call) {
        if (call < 18) {
            tellOrAct(call);
        } else if (call < 28) {
            ask(call);
        } else {
            askMore(call);
        }
    }

    private void tellOrAct(int call) {
        int p = pilgrim();
        int s = sort();
        switch (call) {
            case 0:
            case 1: {
                int a = random.nextInt();
                answer(1, "feed", x.feed(a, 1, 2, 3, 4), model.feed(a, 1, 2, 3, 4));
                break;
            }
            case 2: {
                int n = random.nextInt(5) == 0 ? random.nextInt() : random.nextInt(401);
                answer(2, "end " + n, x.end(n), model.end(n));
                break;
            }
            case 3:
                if (random.nextInt(4) == 0) {
                    answer(3, "hill", x.hill(), model.hill());
                }
                break;
            case 4: answer(4, "rule", x.rule(), model.rule()); break;
            case 5: {
                int rule = some(-1, Math.max(0, model.count(4) - 1));
                answer(5, "force " + rule, x.force(rule), model.force(rule));
                break;
            }
            case 6: {
                int what = some(0, 9);
                answer(6, "pilgrim " + p + " " + what, x.pilgrim(p, what), model.pilgrim(p, what));
                break;
            }
            case 7: {
                int b = bend();
                int what = some(0, 7);
                answer(7, "bend " + b + " " + what, x.bend(b, what), model.bend(b, what));
                break;
            }
            case 8: {
                int what = some(0, 2);
                answer(8, "sort " + s + " " + what, x.sort(s, what), model.sort(s, what));
                break;
            }
            default: act(call, p, s); break;
        }
    }

    private void act(int call, int p, int s) {
        int times = Math.min(CALLS - calls, 1 + random.nextInt(4));
        for (int i = 0; i < times; i++) {
            switch (call) {
                case 9: answer(9, "night", x.night(), model.night()); break;
                case 10:
                case 17: answer(10, "climb " + p, x.climb(p), model.climb(p)); break;
                case 11: answer(11, "down " + p, x.down(p), model.down(p)); break;
                case 12: answer(12, "take " + p + " " + s, x.take(p, s), model.take(p, s)); break;
                case 13: answer(13, "buy " + p + " " + s, x.buy(p, s), model.buy(p, s)); break;
                case 14: answer(14, "sell " + p + " " + s, x.sell(p, s), model.sell(p, s)); break;
                case 15: {
                    int other = pilgrim();
                    answer(15, "hand " + p + " " + other + " " + s, x.hand(p, other, s), model.hand(p, other, s));
                    break;
                }
                default: answer(16, "undo", x.undo(), model.undo()); break;
            }
            s = sort();
        }
    }

    private void ask(int call) {
        int p = pilgrim();
        int what = some(-1, Math.max(0, model.count(1) - 1));
        int which = some(0, 1);
        String of = " " + p + " " + what + " or " + which;
        switch (call) {
            case 18: answer(17, "reach" + of, x.reach(p, what), model.reach(p, what)); break;
            case 19: answer(18, "lacks" + of, x.lacks(p, what), model.lacks(p, what)); break;
            case 20: answer(19, "ways" + of, x.ways(p), model.ways(p)); break;
            case 21: answer(20, "sure" + of, x.sure(p, what), model.sure(p, what)); break;
            case 22: {
                int b = random.nextInt(5) == 0 ? -2 : what;
                answer(21, "bag " + p + " " + b, x.bag(p, b), model.bag(p, b));
                break;
            }
            case 23: {
                int other = pilgrim();
                answer(22, "both " + p + " " + other, x.both(p, other), model.both(p, other));
                break;
            }
            case 24: answer(23, "partner" + of, x.partner(p, which), model.partner(p, which)); break;
            case 25: answer(24, "downwards" + of, x.downwards(p, what), model.downwards(p, what)); break;
            case 26: answer(25, "less" + of, x.less(p, which), model.less(p, which)); break;
            default: answer(26, "rich " + which, x.rich(which), model.rich(which)); break;
        }
    }

    private void askMore(int call) {
        int which = some(0, 1);
        switch (call) {
            case 28: {
                int s = sort();
                int many = some(0, random.nextInt(4) == 0 ? 9 : 2);
                answer(27, "leaves " + s + " " + many, x.leaves(s, many), model.leaves(s, many));
                break;
            }
            case 29: {
                int what = some(-1, 17);
                answer(28, "gifts " + what, x.gifts(what), model.gifts(what));
                break;
            }
            case 30: {
                int n = random.nextInt(6) == 0 ? -1 : some(0, random.nextBoolean() ? 3 : 60);
                int b = bend();
                int s = random.nextInt(3) > 0 ? model.bend(b, random.nextInt(2)) : sort();
                answer(29, "note " + n + " " + b + " " + s, x.note(n, b, s), model.note(n, b, s));
                break;
            }
            case 31: answer(30, "ruled " + which, x.ruled(which), model.ruled(which)); break;
            case 32: {
                int n = some(0, random.nextBoolean() ? 3 : 60);
                answer(31, "look " + n + " " + which, x.look(n, which), model.look(n, which));
                break;
            }
            case 33: {
                int seed = random.nextInt(8) == 0 ? -random.nextInt(5) : random.nextInt() & 2147483647;
                answer(32, "seed " + seed, x.seed(seed), model.seed(seed));
                break;
            }
            case 34: {
                int m = some(1, random.nextInt(4) == 0 ? 10 : 2);
                int n = some(1, random.nextInt(4) == 0 ? 60 : 9);
                answer(33, "years " + m + " " + n + " " + which, x.years(m, n, which), model.years(m, n, which));
                break;
            }
            case 35: {
                int what = some(0, 13);
                answer(34, "count " + what, x.count(what), model.count(what));
                break;
            }
            default: {
                int k = some(0, 3);
                if (random.nextBoolean()) {
                    answer(35, "image " + k, x.image(k), model.image(k));
                } else if (random.nextInt(3) == 0) {
                    answer(36, "back " + k, x.back(k), model.back(k));
                }
                break;
            }
        }
    }
}
