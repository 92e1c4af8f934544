import java.math.BigInteger;
import java.util.ArrayDeque;
import java.util.ArrayList;
import java.util.Arrays;
import java.util.Deque;
import java.util.HashMap;
import java.util.List;
import java.util.Map;
import java.util.function.Function;
import java.util.function.Predicate;

/** The document once more, as slow and as plain as can be, to be held against the program. */
final class HillModel {
    private static final int NONE = -1;

    private static final class Fault extends Exception {
        private static final long serialVersionUID = 1L;
        final int code;

        Fault(int place, int kind) {
            super(null, null, false, false);
            code = 1 + 8 * place + kind;
        }
    }

    private static final class Pilgrim {
        int height;
        int money;
        int left;
        int taken;
        int[] has = new int[5];

        Pilgrim copy() {
            Pilgrim p = new Pilgrim();
            p.height = height;
            p.money = money;
            p.left = left;
            p.taken = taken;
            p.has = has.clone();
            return p;
        }
    }

    private static final class Bend {
        int first;
        int second;
        boolean asksSecond;
        int[] heap = new int[5];

        int asks() {
            return asksSecond ? second : first;
        }

        Bend copy() {
            Bend b = new Bend();
            b.first = first;
            b.second = second;
            b.asksSecond = asksSecond;
            b.heap = heap.clone();
            return b;
        }
    }

    /** A hill with all that is on it at one time. */
    private static final class Land {
        int burden;
        int night;
        List<int[]> sorts = new ArrayList<>();
        List<Bend> bends = new ArrayList<>();
        List<Pilgrim> pilgrims = new ArrayList<>();

        Land copy() {
            Land l = new Land();
            l.burden = burden;
            l.night = night;
            l.sorts = new ArrayList<>(sorts);
            bends.forEach(b -> l.bends.add(b.copy()));
            pilgrims.forEach(p -> l.pilgrims.add(p.copy()));
            return l;
        }

        int weight(int[] things) {
            int w = 0;
            for (int s = 0; s < sorts.size(); s++) {
                w += things[s] * sorts.get(s)[0];
            }
            return w;
        }

        boolean carries(Pilgrim p, int sort) {
            int[] more = p.has.clone();
            more[sort]++;
            return more[sort] <= 9 && weight(more) <= burden;
        }

        boolean climb(int n) {
            Pilgrim p = pilgrims.get(n);
            if (p.height == bends.size()) {
                return false;
            }
            Bend b = bends.get(p.height);
            if (p.has[b.asks()] == 0) {
                return false;
            }
            p.has[b.asks()]--;
            if (b.heap[b.asks()] < 99) {
                b.heap[b.asks()]++;
            }
            p.height++;
            p.left++;
            return true;
        }

        boolean down(int n) {
            if (pilgrims.get(n).height == 0) {
                return false;
            }
            pilgrims.get(n).height--;
            return true;
        }

        boolean take(int n, int sort) {
            Pilgrim p = pilgrims.get(n);
            if (p.height == 0 || p.left <= p.taken || !carries(p, sort) || bends.get(p.height - 1).heap[sort] == 0) {
                return false;
            }
            bends.get(p.height - 1).heap[sort]--;
            p.has[sort]++;
            p.taken++;
            return true;
        }

        boolean buy(int n, int sort) {
            Pilgrim p = pilgrims.get(n);
            if (p.height != 0 || p.money < sorts.get(sort)[2] || !carries(p, sort)) {
                return false;
            }
            p.money -= sorts.get(sort)[2];
            p.has[sort]++;
            return true;
        }

        boolean sell(int n, int sort) {
            Pilgrim p = pilgrims.get(n);
            if (p.height != 0 || p.has[sort] == 0) {
                return false;
            }
            p.has[sort]--;
            p.money = Math.min(999, p.money + sorts.get(sort)[2] / 2);
            return true;
        }

        boolean hand(int one, int other, int sort) {
            Pilgrim p = pilgrims.get(one);
            Pilgrim q = pilgrims.get(other);
            if (one == other || p.height != q.height || p.has[sort] == 0 || !carries(q, sort)) {
                return false;
            }
            p.has[sort]--;
            q.has[sort]++;
            return true;
        }

        long word(String word, int n) {
            Bend b = bends.get(n);
            switch (word) {
                case "bend": return n;
                case "first": return b.first;
                case "second": return b.second;
                case "asks": return b.asks();
                case "night": return night;
                case "ones": return b.heap[b.first];
                case "twos": return b.heap[b.second];
                case "heap": return Arrays.stream(b.heap).sum();
                case "passed": return pilgrims.stream().filter(p -> p.height > n).count();
                default: return pilgrims.stream().filter(p -> p.height == n).count();
            }
        }

        /** The next night. */
        void turn(List<Clause> rule) {
            boolean[] next = new boolean[bends.size()];
            for (int n = 0; n < next.length; n++) {
                if (rule == null) {
                    next[n] = !bends.get(n).asksSecond;
                    continue;
                }
                Place at = new Place(this, n);
                BigInteger sum = rule.stream().filter(c -> c.test == null || c.test.test(at)).findFirst()
                        .map(c -> c.sum.apply(at)).orElse(BigInteger.ZERO);
                next[n] = sum.signum() <= 0;
            }
            for (int n = 0; n < next.length; n++) {
                bends.get(n).asksSecond = next[n];
            }
            night = Math.min(999, night + 1);
        }
    }

    private static final class Place {
        final Land land;
        final int bend;

        Place(Land land, int bend) {
            this.land = land;
            this.bend = bend;
        }
    }

    private static final class Clause {
        Function<Place, BigInteger> sum;
        Predicate<Place> test;
    }

    /** Reads byte by byte. */
    private static final class Reader {
        final String text;
        int at;
        int used;

        Reader(String text) {
            this.text = text;
        }

        void blanks() {
            while (at < text.length() && text.charAt(at) == ' ') {
                at++;
            }
        }

        /** The word that begins here, not passed. */
        String word() {
            blanks();
            int to = at;
            while (to < text.length() && text.charAt(to) >= 'a' && text.charAt(to) <= 'z') {
                to++;
            }
            return text.substring(at, to);
        }

        String digits() {
            blanks();
            int to = at;
            while (to < text.length() && Character.isDigit(text.charAt(to)) && text.charAt(to) < 128) {
                to++;
            }
            return text.substring(at, to);
        }

        boolean sees(String sign) {
            blanks();
            return text.startsWith(sign, at);
        }

        boolean passes(String sign) {
            boolean is = sees(sign);
            at += is ? sign.length() : 0;
            return is;
        }

        boolean ends() {
            blanks();
            return at == text.length();
        }

        int number(Predicate<Integer> asTold) throws Fault {
            String digits = digits();
            if (digits.isEmpty()) {
                throw new Fault(at, 0);
            }
            if (digits.length() > 5 || !asTold.test(Integer.parseInt(digits))) {
                throw new Fault(at, 1);
            }
            at += digits.length();
            return Integer.parseInt(digits);
        }

        int number(int from, int to) throws Fault {
            return number(n -> n >= from && n <= to);
        }

        boolean behindClause() throws Fault {
            if (passes(";")) {
                return true;
            }
            if (!ends()) {
                throw new Fault(at, 0);
            }
            return false;
        }

        Land hill() throws Fault {
            Land l = new Land();
            int clauses = 0;
            do {
                String word = word();
                if (!List.of("hill", "sort", "bend", "pilgrim", "has", "heap").contains(word)) {
                    throw new Fault(at, 0);
                }
                clauses++;
                boolean full = word.equals("sort") && l.sorts.size() == 5 || word.equals("bend") && l.bends.size() == 8
                        || word.equals("pilgrim") && l.pilgrims.size() == 4;
                if (clauses == 41 || full || word.equals("hill") != (clauses == 1)) {
                    throw new Fault(at, 4);
                }
                at += word.length();
                clause(l, word);
            } while (behindClause());
            return l;
        }

        void clause(Land l, String word) throws Fault {
            if (word.equals("hill")) {
                l.burden = number(1, 40);
            } else if (word.equals("sort")) {
                l.sorts.add(new int[] {number(1, 9), number(0, 30), number(1, 30)});
            } else if (word.equals("bend")) {
                Bend b = new Bend();
                b.first = number(0, l.sorts.size() - 1);
                b.second = number(0, l.sorts.size() - 1);
                l.bends.add(b);
            } else if (word.equals("pilgrim")) {
                Pilgrim p = new Pilgrim();
                p.money = number(0, 99);
                l.pilgrims.add(p);
            } else if (word.equals("has")) {
                Pilgrim p = l.pilgrims.isEmpty() ? null : l.pilgrims.get(0);
                int n = number(0, l.pilgrims.size() - 1);
                p = l.pilgrims.get(n);
                int[] has = p.has;
                int sort = number(0, l.sorts.size() - 1);
                has[sort] += number(m -> m >= 1 && m <= 4 && has[sort] + m <= 9
                        && l.weight(has) + m * l.sorts.get(sort)[0] <= l.burden);
            } else {
                Bend b = l.bends.get(number(0, l.bends.size() - 1));
                int sort = number(0, l.sorts.size() - 1);
                b.heap[sort] = number(0, 9);
            }
        }

        List<Clause> rule() throws Fault {
            List<Clause> clauses = new ArrayList<>();
            do {
                if (!word().equals("ask")) {
                    throw new Fault(at, 0);
                }
                if (clauses.size() == 12) {
                    throw new Fault(at, 4);
                }
                at += 3;
                Clause c = new Clause();
                c.sum = sum();
                if (word().equals("if")) {
                    at += 2;
                    c.test = test(0);
                }
                clauses.add(c);
            } while (behindClause());
            return clauses;
        }

        Predicate<Place> test(int depth) throws Fault {
            Predicate<Place> all = part(depth);
            while (word().equals("or")) {
                at += 2;
                all = all.or(part(depth));
            }
            return all;
        }

        Predicate<Place> part(int depth) throws Fault {
            Predicate<Place> all = fact(depth);
            while (word().equals("and")) {
                at += 3;
                all = all.and(fact(depth));
            }
            return all;
        }

        Predicate<Place> fact(int depth) throws Fault {
            boolean not = word().equals("not");
            if (not || sees("[")) {
                if (depth == 10) {
                    throw new Fault(at, 2);
                }
                at += not ? 3 : 1;
                if (not) {
                    return fact(depth + 1).negate();
                }
                Predicate<Place> inner = test(depth + 1);
                if (!passes("]")) {
                    throw new Fault(at, 0);
                }
                return inner;
            }
            Function<Place, BigInteger> a = sum();
            blanks();
            int place = at;
            for (String sign : List.of("<=", ">=", "<", ">", "=")) {
                if (passes(sign)) {
                    use(place);
                    Function<Place, BigInteger> b = sum();
                    return p -> holds(sign, a.apply(p).compareTo(b.apply(p)));
                }
            }
            throw new Fault(place, 0);
        }

        static boolean holds(String sign, int compared) {
            return compared == 0 ? sign.endsWith("=") : sign.startsWith(compared < 0 ? "<" : ">");
        }

        void use(int place) throws Fault {
            used++;
            if (used > 60) {
                throw new Fault(place, 3);
            }
        }

        static BigInteger round(BigInteger n) {
            return BigInteger.valueOf(n.longValue());
        }

        Function<Place, BigInteger> sum() throws Fault {
            Function<Place, BigInteger> all = term();
            while (sees("+") || sees("-")) {
                boolean plus = text.charAt(at) == '+';
                at++;
                Function<Place, BigInteger> a = all;
                Function<Place, BigInteger> b = term();
                all = p -> round(plus ? a.apply(p).add(b.apply(p)) : a.apply(p).subtract(b.apply(p)));
            }
            return all;
        }

        Function<Place, BigInteger> term() throws Fault {
            Function<Place, BigInteger> all = value();
            while (sees("*") || sees("/") || sees("%")) {
                char sign = text.charAt(at);
                at++;
                Function<Place, BigInteger> a = all;
                Function<Place, BigInteger> b = value();
                all = p -> {
                    BigInteger by = b.apply(p);
                    if (sign == '*') {
                        return round(a.apply(p).multiply(by));
                    }
                    if (by.signum() == 0) {
                        return BigInteger.ZERO;
                    }
                    return round(sign == '/' ? a.apply(p).divide(by) : a.apply(p).remainder(by));
                };
            }
            return all;
        }

        Function<Place, BigInteger> value() throws Fault {
            String word = word();
            String digits = digits();
            if (!digits.isEmpty()) {
                int n = number(m -> true);
                use(at - digits.length());
                return p -> BigInteger.valueOf(n);
            }
            if (!List.of("bend", "first", "second", "asks", "night", "ones", "twos", "heap", "passed", "here").contains(word)) {
                throw new Fault(at, 0);
            }
            use(at);
            at += word.length();
            return p -> BigInteger.valueOf(p.land.word(word, p.bend));
        }
    }

    /** What an image holds. */
    private static final class Whole {
        Land begin;
        Land land = new Land();
        int force = NONE;
        int x;
        int[] leaves = new int[5];
        List<int[]> notes = new ArrayList<>();

        Whole copy() {
            Whole w = new Whole();
            w.begin = begin == null ? null : begin.copy();
            w.land = land.copy();
            w.force = force;
            w.x = x;
            w.leaves = leaves.clone();
            w.notes = new ArrayList<>(notes);
            return w;
        }
    }

    private String tape = "";
    private final List<List<Clause>> rules = new ArrayList<>();
    private Whole w = new Whole();
    private final Deque<Land> past = new ArrayDeque<>();
    private final Map<Integer, Whole> images = new HashMap<>();

    int feed(int... numbers) {
        if (tape.length() + 20 > 400) {
            return NONE;
        }
        StringBuilder more = new StringBuilder(tape);
        for (int n : numbers) {
            for (byte b : java.nio.ByteBuffer.allocate(4).putInt(n).array()) {
                more.append((char) (b & 255));
            }
        }
        tape = more.toString();
        return tape.length();
    }

    int end(int n) {
        if (n < 0 || n > tape.length()) {
            return NONE;
        }
        tape = tape.substring(0, n);
        return n;
    }

    int hill() {
        try {
            w.begin = new Reader(tape).hill();
        } catch (Fault f) {
            return -2 - f.code;
        }
        w.land = w.begin.copy();
        w.leaves = new int[5];
        w.notes.clear();
        past.clear();
        tape = "";
        return w.land.bends.size();
    }

    int rule() {
        if (rules.size() == 6) {
            return NONE;
        }
        String text = tape;
        tape = "";
        try {
            rules.add(new Reader(text).rule());
        } catch (Fault f) {
            return -2 - f.code;
        }
        return rules.size() - 1;
    }

    int force(int rule) {
        if (rule < -1 || rule >= rules.size()) {
            return -2;
        }
        int was = w.force;
        w.force = rule;
        return was;
    }

    private List<Clause> ruleOf(int n) {
        return n == NONE ? null : rules.get(n);
    }

    private boolean noPilgrim(int n) {
        return n < 0 || n >= w.land.pilgrims.size();
    }

    private boolean noBend(int n) {
        return n < 0 || n >= w.land.bends.size();
    }

    private boolean noSort(int n) {
        return n < 0 || n >= w.land.sorts.size();
    }

    int pilgrim(int n, int what) {
        if (noPilgrim(n) || what < 0 || what > 9) {
            return NONE;
        }
        Pilgrim p = w.land.pilgrims.get(n);
        int[] head = {p.height, p.money, p.left, p.taken, w.land.weight(p.has)};
        return what < 5 ? head[what] : p.has[what - 5];
    }

    int bend(int n, int what) {
        if (noBend(n) || what < 0 || what > 7) {
            return NONE;
        }
        Bend b = w.land.bends.get(n);
        int[] head = {b.first, b.second, b.asks()};
        return what < 3 ? head[what] : b.heap[what - 3];
    }

    int sort(int n, int what) {
        return noSort(n) || what < 0 || what > 2 ? NONE : w.land.sorts.get(n)[what];
    }

    /** An act on a copy, kept if it could be. */
    private boolean act(Predicate<Land> act) {
        Land was = w.land.copy();
        if (!act.test(w.land)) {
            return false;
        }
        past.addLast(was);
        if (past.size() > 20) {
            past.removeFirst();
        }
        return true;
    }

    int night() {
        if (w.begin == null || w.land.night == 999) {
            return NONE;
        }
        int[] was = w.land.bends.stream().mapToInt(Bend::asks).toArray();
        act(l -> {
            l.turn(ruleOf(w.force));
            return true;
        });
        int bits = 0;
        for (int n = 0; n < was.length; n++) {
            bits += w.land.bends.get(n).asks() != was[n] ? 1 << n : 0;
        }
        return bits;
    }

    int climb(int n) {
        return !noPilgrim(n) && act(l -> l.climb(n)) ? pilgrim(n, 0) : NONE;
    }

    int down(int n) {
        return !noPilgrim(n) && act(l -> l.down(n)) ? pilgrim(n, 0) : NONE;
    }

    int take(int n, int sort) {
        return !noPilgrim(n) && !noSort(sort) && act(l -> l.take(n, sort)) ? pilgrim(n, 5 + sort) : NONE;
    }

    int buy(int n, int sort) {
        return !noPilgrim(n) && !noSort(sort) && act(l -> l.buy(n, sort)) ? pilgrim(n, 1) : NONE;
    }

    int sell(int n, int sort) {
        return !noPilgrim(n) && !noSort(sort) && act(l -> l.sell(n, sort)) ? pilgrim(n, 1) : NONE;
    }

    int hand(int one, int other, int sort) {
        boolean none = noPilgrim(one) || noPilgrim(other) || noSort(sort);
        return !none && act(l -> l.hand(one, other, sort)) ? pilgrim(other, 5 + sort) : NONE;
    }

    int undo() {
        if (past.isEmpty()) {
            return NONE;
        }
        w.land = past.removeLast();
        return past.size();
    }

    private boolean notOf(int n, int what) {
        return noPilgrim(n) || what != NONE && noSort(what);
    }

    int reach(int n, int what) {
        if (notOf(n, what)) {
            return -2;
        }
        Land l = w.land.copy();
        while (l.climb(n)) {
            continue;
        }
        return what == NONE ? l.pilgrims.get(n).height : l.pilgrims.get(n).has[what];
    }

    private int price(int[] things) {
        int price = 0;
        for (int s = 0; s < w.land.sorts.size(); s++) {
            price += things[s] * w.land.sorts.get(s)[2];
        }
        return price;
    }

    int lacks(int n, int what) {
        if (notOf(n, what)) {
            return -2;
        }
        int[] lacks = new int[5];
        Land l = w.land.copy();
        Pilgrim p = l.pilgrims.get(n);
        while (p.height < l.bends.size()) {
            if (!l.climb(n)) {
                int sort = l.bends.get(p.height).asks();
                lacks[sort]++;
                p.has[sort]++;
            }
        }
        return what == NONE ? price(lacks) : lacks[what];
    }

    /** By how many ways such a stock lasts for these bends, if each has so many. */
    private static int lasts(List<Bend> bends, int[] stock, int each) {
        int ways = 0;
        for (int way = 0; way < 1 << bends.size(); way++) {
            int[] rest = stock.clone();
            boolean good = true;
            for (int i = 0; i < bends.size(); i++) {
                int sort = (way >> i & 1) == 0 ? bends.get(i).first : bends.get(i).second;
                rest[sort] -= each;
                good &= rest[sort] >= 0;
            }
            ways += good ? 1 : 0;
        }
        return ways;
    }

    private List<Bend> ahead(int n) {
        return w.land.bends.subList(w.land.pilgrims.get(n).height, w.land.bends.size());
    }

    int ways(int n) {
        return noPilgrim(n) ? NONE : lasts(ahead(n), w.land.pilgrims.get(n).has, 1);
    }

    int sure(int n, int what) {
        if (notOf(n, what)) {
            return -2;
        }
        int[] more = new int[5];
        int[] has = w.land.pilgrims.get(n).has;
        int all = 1 << ahead(n).size();
        for (int s = 0; s < w.land.sorts.size(); s++) {
            int[] plenty = {99, 99, 99, 99, 99};
            for (int m = 0; ; m++) {
                plenty[s] = has[s] + m;
                if (lasts(ahead(n), plenty, 1) == all) {
                    more[s] = m;
                    break;
                }
            }
        }
        return what == NONE ? price(more) : more[what];
    }

    /** The least of the lists that are longer by one of 0 to most each. */
    private static void rows(int length, int most, List<Integer> row, List<int[]> all) {
        if (row.size() == length) {
            all.add(row.stream().mapToInt(Integer::intValue).toArray());
            return;
        }
        for (int n = 0; n <= most; n++) {
            row.add(n);
            rows(length, most, row, all);
            row.remove(row.size() - 1);
        }
    }

    int bag(int n, int what) {
        if (noPilgrim(n) || w.land.pilgrims.get(n).height != 0 || what != -2 && notOf(n, what)) {
            return -3;
        }
        List<int[]> all = new ArrayList<>();
        rows(w.land.sorts.size(), 3, new ArrayList<>(), all);
        int[] best = null;
        int ways = 0;
        int price = 0;
        for (int[] row : all) {
            Land l = w.land.copy();
            boolean good = true;
            for (int s = 0; s < row.length && good; s++) {
                for (int m = 0; m < row[s] && good; m++) {
                    good = l.buy(n, s);
                }
            }
            if (!good) {
                continue;
            }
            int rowWays = lasts(ahead(n), l.pilgrims.get(n).has, 1);
            int rowPrice = w.land.pilgrims.get(n).money - l.pilgrims.get(n).money;
            if (best == null || rowWays > ways || rowWays == ways && rowPrice < price) {
                best = row;
                ways = rowWays;
                price = rowPrice;
            }
        }
        return what == NONE ? ways : what == -2 ? price : best[what];
    }

    int both(int one, int other) {
        if (noPilgrim(one) || noPilgrim(other) || one == other || pilgrim(one, 0) != pilgrim(other, 0)) {
            return NONE;
        }
        int[] stock = w.land.pilgrims.get(one).has.clone();
        for (int s = 0; s < 5; s++) {
            stock[s] += w.land.pilgrims.get(other).has[s];
        }
        return lasts(ahead(one), stock, 2);
    }

    int partner(int n, int what) {
        if (noPilgrim(n) || what < 0 || what > 1) {
            return NONE;
        }
        int[] best = {-2, -2};
        for (int other = 0; other < w.land.pilgrims.size(); other++) {
            if (both(n, other) > Math.max(best[1], -1)) {
                best = new int[] {other, both(n, other)};
            }
        }
        return best[what];
    }

    int downwards(int n, int what) {
        if (notOf(n, what)) {
            return -2;
        }
        Pilgrim p = w.land.pilgrims.get(n);
        int[] lying = new int[5];
        for (Bend b : w.land.bends.subList(0, p.height)) {
            for (int s = 0; s < 5; s++) {
                lying[s] += b.heap[s];
            }
        }
        int may = p.left - p.taken;
        List<int[]> all = new ArrayList<>();
        rows(w.land.sorts.size(), Math.min(9, may), new ArrayList<>(), all);
        int[] best = null;
        int worth = 0;
        int many = 0;
        for (int[] row : all) {
            int[] then = p.has.clone();
            int rowWorth = 0;
            int rowMany = 0;
            boolean good = true;
            for (int s = 0; s < row.length; s++) {
                then[s] += row[s];
                good &= row[s] <= lying[s] && then[s] <= 9;
                rowWorth += row[s] * w.land.sorts.get(s)[1];
                rowMany += row[s];
            }
            good &= rowMany <= may && w.land.weight(then) <= w.land.burden;
            if (good && (best == null || rowWorth > worth || rowWorth == worth && rowMany < many)) {
                best = row;
                worth = rowWorth;
                many = rowMany;
            }
        }
        return what == NONE ? worth : best[what];
    }

    int less(int n, int what) {
        if (noPilgrim(n) || what < 0 || what > 1) {
            return NONE;
        }
        int[] best = {-2, -2};
        int height = pilgrim(n, 0);
        for (int b = height; b < w.land.bends.size(); b++) {
            List<Bend> left = new ArrayList<>(ahead(n));
            left.remove(b - height);
            int ways = lasts(left, w.land.pilgrims.get(n).has, 1);
            if (ways > best[1]) {
                best = new int[] {b, ways};
            }
        }
        return best[what];
    }

    int rich(int what) {
        if (w.begin == null || what < 0 || what > 1) {
            return NONE;
        }
        int[] best = {-2, -2};
        for (int n = 0; n < w.land.pilgrims.size(); n++) {
            Pilgrim p = w.land.pilgrims.get(n);
            int much = p.money;
            for (int s = 0; s < w.land.sorts.size(); s++) {
                much += p.has[s] * w.land.sorts.get(s)[1];
            }
            if (much > best[1]) {
                best = new int[] {n, much};
            }
        }
        return best[what];
    }

    int leaves(int sort, int many) {
        if (noSort(sort) || many < 0 || many > 9) {
            return NONE;
        }
        int was = w.leaves[sort];
        w.leaves[sort] = many;
        return was;
    }

    int gifts(int what) {
        boolean known = what >= -1 && what <= 7 || what >= 10 && what <= 17;
        if (w.begin == null || !known) {
            return -3;
        }
        int things = Arrays.stream(w.leaves).sum();
        List<int[]> rows = new ArrayList<>();
        for (int way = 0; things <= w.land.bends.size() && way < 1 << things; way++) {
            int[] row = new int[things];
            int[] rest = w.leaves.clone();
            boolean once = true;
            for (int i = 0; i < things; i++) {
                Bend b = w.land.bends.get(i);
                boolean second = (way >> things - 1 - i & 1) == 1;
                once &= !second || b.first != b.second;
                row[i] = second ? b.second : b.first;
                rest[row[i]]--;
            }
            if (once && Arrays.equals(rest, new int[5])) {
                rows.add(row);
            }
        }
        if (what == NONE) {
            return rows.size();
        }
        if (what >= 10) {
            return rows.isEmpty() || what - 10 >= things ? -2 : rows.get(0)[what - 10];
        }
        return what >= things ? 0 : rows.stream().mapToInt(row -> 1 << row[what]).reduce(0, (a, b) -> a | b);
    }

    int note(int n, int bend, int sort) {
        if (n == NONE) {
            w.notes.clear();
            return 0;
        }
        if (n < 0 || n > 60 || noBend(bend) || noSort(sort) || w.notes.size() == 10) {
            return -2;
        }
        w.notes.add(new int[] {n, bend, sort});
        return w.notes.size();
    }

    private int asked(int rule, int n, int bend) {
        Land l = w.begin.copy();
        for (int i = 0; i < n; i++) {
            l.turn(ruleOf(rule));
        }
        return l.bends.get(bend).asks();
    }

    private List<Integer> rulesThatAre() {
        List<Integer> all = new ArrayList<>();
        for (int rule = -1; rule < rules.size(); rule++) {
            int r = rule;
            if (w.notes.stream().allMatch(note -> asked(r, note[0], note[1]) == note[2])) {
                all.add(rule);
            }
        }
        return all;
    }

    int ruled(int what) {
        if (w.begin == null || what < 0 || what > 1) {
            return -3;
        }
        List<Integer> are = rulesThatAre();
        return what == 0 ? are.size() : are.isEmpty() ? -2 : are.get(0);
    }

    int look(int n, int what) {
        if (w.begin == null || n < 0 || n > 60 || what < 0 || what > 1) {
            return NONE;
        }
        List<Integer> are = rulesThatAre();
        int[] best = {-2, -2};
        for (int b = 0; b < w.land.bends.size() && !are.isEmpty(); b++) {
            int[] alike = new int[5];
            for (int rule : are) {
                alike[asked(rule, n, b)]++;
            }
            int most = Arrays.stream(alike).max().getAsInt();
            if (best[0] == -2 || most < best[1]) {
                best = new int[] {b, most};
            }
        }
        return best[what];
    }

    int seed(int x) {
        if (x < 0) {
            return NONE;
        }
        int was = w.x;
        w.x = x;
        return was;
    }

    int years(int m, int n, int what) {
        if (w.begin == null || m < 1 || m > 10 || n < 1 || n > 60 || what < 0 || what > 1) {
            return NONE;
        }
        BigInteger x = BigInteger.valueOf(w.x);
        int heights = 0;
        int things = 0;
        for (int year = 0; year < m; year++) {
            Land l = w.land.copy();
            for (int night = 0; night < n; night++) {
                for (int p = 0; p < l.pilgrims.size(); p++) {
                    x = x.multiply(BigInteger.valueOf(1103515245)).add(BigInteger.valueOf(12345))
                            .mod(BigInteger.valueOf(2147483648L));
                    if (x.longValue() / 65536 % 4 == 0) {
                        l.down(p);
                    } else if (l.climb(p)) {
                        things++;
                    }
                }
                l.turn(ruleOf(w.force));
            }
            heights += l.pilgrims.stream().mapToInt(p -> p.height).sum();
        }
        return what == 0 ? heights : things;
    }

    int count(int what) {
        int turned = 0;
        int lying = 0;
        for (int n = 0; n < w.land.bends.size(); n++) {
            Bend b = w.land.bends.get(n);
            turned += b.asksSecond && b.first != b.second ? 1 << n : 0;
            lying += Arrays.stream(b.heap).sum();
        }
        int up = 0;
        for (int n = 0; n < w.land.pilgrims.size(); n++) {
            up += pilgrim(n, 0) == w.land.bends.size() ? 1 << n : 0;
        }
        int[] all = {w.land.burden, w.land.sorts.size(), w.land.bends.size(), w.land.pilgrims.size(), rules.size(), w.force,
            w.land.night, turned, up, lying, w.notes.size(), past.size(), w.x, tape.length()};
        return what < 0 || what >= all.length ? NONE : all[what];
    }

    int image(int k) {
        if (k < 0 || k > 3) {
            return NONE;
        }
        images.put(k, w.copy());
        return w.land.night;
    }

    int back(int k) {
        if (!images.containsKey(k)) {
            return NONE;
        }
        w = images.get(k).copy();
        past.clear();
        return w.land.night;
    }
}
