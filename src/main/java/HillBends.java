/** A hill of bends that each ask for something to be left; the document of the project says every answer. */
public final class HillBends {
    public static final int NONE = -1;

    private static final int SORTS = 5;
    private static final int BENDS = 8;
    private static final int PILGRIMS = 4;
    private static final int RULES = 6;
    private static final int IMAGES = 4;
    private static final int NOTES = 10;
    private static final int LAST_NOTED_NIGHT = 60;
    private static final int LAST_NIGHT = 999;
    private static final int MOST_OF_A_SORT = 9;
    private static final int MOST_TOLD_LEFT = 9;

    private final Tape tape = new Tape();
    private final HillReader hillReader = new HillReader();
    private final Rule[] rules = new Rule[RULES];
    private final World world = new World();
    private final World[] images = new World[IMAGES];
    private final History history = new History();
    private final Nights nights = new Nights();
    private final Chances chances = new Chances();
    private final Choices choices = new Choices();
    private final Forecast forecast = new Forecast();
    private int ruleCount;
    private int imagesMade;

    public HillBends() {
        for (int i = 0; i < RULES; i++) {
            rules[i] = new Rule();
        }
        for (int i = 0; i < IMAGES; i++) {
            images[i] = new World();
        }
    }

    // ---- the tape, the hill and the rules

    public int feed(int a, int b, int c, int d, int e) {
        if (tape.size + 20 > Tape.MOST) {
            return NONE;
        }
        tape.append(a);
        tape.append(b);
        tape.append(c);
        tape.append(d);
        tape.append(e);
        return tape.size;
    }

    public int end(int n) {
        if (n < 0 || n > tape.size) {
            return NONE;
        }
        tape.size = n;
        return n;
    }

    public int hill() {
        int fault = hillReader.read(tape);
        if (fault != 0) {
            return -2 - fault;
        }
        tape.size = 0;
        world.begin(hillReader.told);
        history.clear();
        forecast.forget();
        return world.hill.bends;
    }

    public int rule() {
        if (ruleCount >= RULES) {
            return NONE;
        }
        int fault = rules[ruleCount].read(tape);
        // A text with a fault is gone, too: that all stays is said of a hill alone.
        tape.size = 0;
        if (fault != 0) {
            return -2 - fault;
        }
        ruleCount++;
        return ruleCount - 1;
    }

    public int force(int rule) {
        if (rule < NONE || rule >= ruleCount) {
            return -2;
        }
        int was = world.force;
        world.force = rule;
        return was;
    }

    // ---- what is there

    public int pilgrim(int pilgrim, int what) {
        if (!isPilgrim(pilgrim)) {
            return NONE;
        }
        Scene now = world.now;
        switch (what) {
            case 0: return now.height[pilgrim];
            case 1: return now.money[pilgrim];
            case 2: return now.left[pilgrim];
            case 3: return now.taken[pilgrim];
            case 4: return now.weightOf(world.hill, pilgrim);
            default:
                return what >= 5 && what < 5 + SORTS ? now.has[pilgrim * SORTS + what - 5] : NONE;
        }
    }

    public int bend(int bend, int what) {
        if (!isBend(bend)) {
            return NONE;
        }
        Hill hill = world.hill;
        switch (what) {
            case 0: return hill.first[bend];
            case 1: return hill.second[bend];
            case 2: return hill.askedAt(bend, world.now.seconds);
            default:
                return what >= 3 && what < 3 + SORTS ? world.now.heap[bend * SORTS + what - 3] : NONE;
        }
    }

    public int sort(int sort, int what) {
        if (!isSort(sort)) {
            return NONE;
        }
        Hill hill = world.hill;
        switch (what) {
            case 0: return hill.weight[sort];
            case 1: return hill.worth[sort];
            case 2: return hill.price[sort];
            default: return NONE;
        }
    }

    // ---- acts

    public int night() {
        Scene now = world.now;
        if (!world.hill.told || now.night >= LAST_NIGHT) {
            return NONE;
        }
        int before = world.hill.turned(now.seconds);
        history.keep(now);
        nights.pass(world.hill, now, ruleOf(world.force));
        return before ^ world.hill.turned(now.seconds);
    }

    public int climb(int pilgrim) {
        Scene now = world.now;
        if (!isPilgrim(pilgrim) || !now.canGoUp(world.hill, pilgrim)) {
            return NONE;
        }
        history.keep(now);
        now.goUp(world.hill, pilgrim);
        return now.height[pilgrim];
    }

    public int down(int pilgrim) {
        Scene now = world.now;
        if (!isPilgrim(pilgrim) || now.height[pilgrim] <= 0) {
            return NONE;
        }
        history.keep(now);
        now.height[pilgrim]--;
        return now.height[pilgrim];
    }

    public int take(int pilgrim, int sort) {
        Scene now = world.now;
        if (!isPilgrim(pilgrim) || !isSort(sort) || !now.canPick(world.hill, pilgrim, sort)) {
            return NONE;
        }
        history.keep(now);
        now.pick(pilgrim, sort);
        return now.has[pilgrim * SORTS + sort];
    }

    public int buy(int pilgrim, int sort) {
        Scene now = world.now;
        if (!isPilgrim(pilgrim) || !isSort(sort) || !now.canPay(world.hill, pilgrim, sort)) {
            return NONE;
        }
        history.keep(now);
        now.money[pilgrim] -= world.hill.price[sort];
        now.has[pilgrim * SORTS + sort]++;
        return now.money[pilgrim];
    }

    public int sell(int pilgrim, int sort) {
        Scene now = world.now;
        if (!isPilgrim(pilgrim) || !isSort(sort) || !now.canPart(pilgrim, sort)) {
            return NONE;
        }
        history.keep(now);
        now.part(world.hill, pilgrim, sort);
        return now.money[pilgrim];
    }

    public int hand(int one, int other, int sort) {
        Scene now = world.now;
        if (!areTogether(one, other) || !isSort(sort)) {
            return NONE;
        }
        if (now.has[one * SORTS + sort] <= 0 || !now.canCarry(world.hill, other, sort)) {
            return NONE;
        }
        history.keep(now);
        now.has[one * SORTS + sort]--;
        now.has[other * SORTS + sort]++;
        return now.has[other * SORTS + sort];
    }

    public int undo() {
        return history.restore(world.now) ? history.size : NONE;
    }

    // ---- what is asked of one pilgrim

    public int reach(int pilgrim, int what) {
        if (!isPilgrim(pilgrim) || !isSortOrNone(what)) {
            return -2;
        }
        int height = chances.reached(world.hill, world.now, pilgrim);
        return what == NONE ? height : chances.stock[what];
    }

    public int lacks(int pilgrim, int what) {
        if (!isPilgrim(pilgrim) || !isSortOrNone(what)) {
            return -2;
        }
        chances.lackNow(world.hill, world.now, pilgrim);
        return what == NONE ? chances.priceOfNeed(world.hill) : chances.need[what];
    }

    public int ways(int pilgrim) {
        return isPilgrim(pilgrim) ? chances.waysUp(world.hill, world.now, pilgrim, NONE) : NONE;
    }

    public int sure(int pilgrim, int what) {
        if (!isPilgrim(pilgrim) || !isSortOrNone(what)) {
            return -2;
        }
        chances.lackEver(world.hill, world.now, pilgrim);
        return what == NONE ? chances.priceOfNeed(world.hill) : chances.need[what];
    }

    public int bag(int pilgrim, int what) {
        if (!isPilgrim(pilgrim) || world.now.height[pilgrim] != 0) {
            return -3;
        }
        if (what != -2 && !isSortOrNone(what)) {
            return -3;
        }
        chances.packBag(world.hill, world.now, pilgrim);
        if (what == NONE) {
            return chances.bagWays;
        }
        return what == -2 ? chances.bagPrice : chances.bagRow[what];
    }

    public int both(int one, int other) {
        return areTogether(one, other) ? chances.waysOfTwo(world.hill, world.now, one, other) : NONE;
    }

    public int partner(int pilgrim, int what) {
        if (!isPilgrim(pilgrim) || what < 0 || what > 1) {
            return NONE;
        }
        int who = -2;
        int most = -2;
        for (int other = 0; other < world.hill.pilgrims; other++) {
            if (areTogether(pilgrim, other)) {
                int ways = chances.waysOfTwo(world.hill, world.now, pilgrim, other);
                if (ways > most) {
                    most = ways;
                    who = other;
                }
            }
        }
        return what == 0 ? who : most;
    }

    public int downwards(int pilgrim, int what) {
        if (!isPilgrim(pilgrim) || !isSortOrNone(what)) {
            return -2;
        }
        choices.pickDownwards(world.hill, world.now, pilgrim);
        return what == NONE ? choices.worthOfBest(world.hill) : choices.best[what];
    }

    public int less(int pilgrim, int what) {
        if (!isPilgrim(pilgrim) || what < 0 || what > 1) {
            return NONE;
        }
        int which = -2;
        int most = -2;
        for (int bend = world.now.height[pilgrim]; bend < world.hill.bends; bend++) {
            int ways = chances.waysUp(world.hill, world.now, pilgrim, bend);
            if (ways > most) {
                most = ways;
                which = bend;
            }
        }
        return what == 0 ? which : most;
    }

    public int rich(int what) {
        if (!world.hill.told || what < 0 || what > 1) {
            return NONE;
        }
        int who = -2;
        int most = -2;
        for (int pilgrim = 0; pilgrim < world.hill.pilgrims; pilgrim++) {
            int much = world.now.wealthOf(world.hill, pilgrim);
            if (much > most) {
                most = much;
                who = pilgrim;
            }
        }
        return what == 0 ? who : most;
    }

    // ---- what was told, and what follows from it

    public int leaves(int sort, int many) {
        if (!isSort(sort) || many < 0 || many > MOST_TOLD_LEFT) {
            return NONE;
        }
        int was = world.leaves[sort];
        world.leaves[sort] = many;
        return was;
    }

    public int gifts(int what) {
        boolean ofCan = what >= 0 && what < BENDS;
        boolean ofFirst = what >= 10 && what < 10 + BENDS;
        if (!world.hill.told || !(what == NONE || ofCan || ofFirst)) {
            return -3;
        }
        int rows = choices.countGifts(world.hill, world.leaves);
        if (what == NONE) {
            return rows;
        }
        return ofCan ? choices.can[what] : choices.firstRow[what - 10];
    }

    public int note(int n, int bend, int sort) {
        if (n == NONE) {
            world.notes = 0;
            return 0;
        }
        if (n < 0 || n > LAST_NOTED_NIGHT || !isBend(bend) || !isSort(sort) || world.notes >= NOTES) {
            return -2;
        }
        world.noteNight[world.notes] = n;
        world.noteBend[world.notes] = bend;
        world.noteSort[world.notes] = sort;
        world.notes++;
        return world.notes;
    }

    public int ruled(int what) {
        if (!world.hill.told || what < 0 || what > 1) {
            return -3;
        }
        int candidates = candidates();
        if (what == 0) {
            return Integer.bitCount(candidates);
        }
        for (int rule = NONE; rule < ruleCount; rule++) {
            if ((candidates >> rule + 1 & 1) != 0) {
                return rule;
            }
        }
        return -2;
    }

    public int look(int n, int what) {
        if (!world.hill.told || n < 0 || n > LAST_NOTED_NIGHT || what < 0 || what > 1) {
            return NONE;
        }
        int candidates = candidates();
        int which = -2;
        int fewest = -2;
        for (int bend = 0; candidates != 0 && bend < world.hill.bends; bend++) {
            int alike = forecast.mostAlike(world.hill, candidates, bend, n);
            if (which < 0 || alike < fewest) {
                fewest = alike;
                which = bend;
            }
        }
        return what == 0 ? which : fewest;
    }

    public int seed(int x) {
        if (x < 0) {
            return NONE;
        }
        int was = world.x;
        world.x = x;
        return was;
    }

    public int years(int m, int n, int what) {
        if (!world.hill.told || m < 1 || m > 10 || n < 1 || n > 60 || what < 0 || what > 1) {
            return NONE;
        }
        nights.runYears(world, ruleOf(world.force), m, n);
        return what == 0 ? nights.heights : nights.things;
    }

    public int count(int what) {
        Scene now = world.now;
        Hill hill = world.hill;
        switch (what) {
            case 0: return hill.burden;
            case 1: return hill.sorts;
            case 2: return hill.bends;
            case 3: return hill.pilgrims;
            case 4: return ruleCount;
            case 5: return world.force;
            case 6: return now.night;
            case 7: return hill.turned(now.seconds);
            case 8: return now.atTop(hill);
            case 9: return now.lying();
            case 10: return world.notes;
            case 11: return history.size;
            case 12: return world.x;
            case 13: return tape.size;
            default: return NONE;
        }
    }

    public int image(int k) {
        if (k < 0 || k >= IMAGES) {
            return NONE;
        }
        images[k].copyFrom(world);
        imagesMade |= 1 << k;
        return world.now.night;
    }

    public int back(int k) {
        if (k < 0 || k >= IMAGES || (imagesMade >> k & 1) == 0) {
            return NONE;
        }
        world.copyFrom(images[k]);
        history.clear();
        forecast.forget();
        return world.now.night;
    }

    // ---- tests of arguments

    private boolean isPilgrim(int pilgrim) {
        return pilgrim >= 0 && pilgrim < world.hill.pilgrims;
    }

    private boolean isBend(int bend) {
        return bend >= 0 && bend < world.hill.bends;
    }

    private boolean isSort(int sort) {
        return sort >= 0 && sort < world.hill.sorts;
    }

    private boolean isSortOrNone(int what) {
        return what == NONE || isSort(what);
    }

    private boolean areTogether(int one, int other) {
        return isPilgrim(one) && isPilgrim(other) && one != other
                && world.now.height[one] == world.now.height[other];
    }

    private Rule ruleOf(int number) {
        return number >= 0 && number < ruleCount ? rules[number] : null;
    }

    /** By which rules all notes are so, as bits: bit 0 for none, bit r + 1 for rule r. */
    private int candidates() {
        int bits = 0;
        for (int candidate = 0; candidate <= ruleCount; candidate++) {
            forecast.foresee(world.hill, nights, ruleOf(candidate - 1), candidate);
            if (forecast.agrees(world, candidate)) {
                bits |= 1 << candidate;
            }
        }
        return bits;
    }

    /** The bytes that were fed, and the tokens they make. */
    private static final class Tape {
        static final int MOST = 400;
        static final int DIGITS = 5;
        static final int TOO_LONG = -1;

        // Kinds of tokens; a sign of one byte is its own kind, so these lie above all such signs.
        static final int AT_MOST = 128;
        static final int AT_LEAST = 129;
        static final int NUMBER = 130;
        static final int WORD = 131;
        static final int BAD = 132;
        static final int END = 133;

        static final String SIGNS = ";[]+-*/%<=>";
        static final String WORDS = "hill sort bend pilgrim has heap ask if or and not first second asks night ones twos passed here";
        static final int HILL = 0;
        static final int SORT = 1;
        static final int BEND = 2;
        static final int PILGRIM = 3;
        static final int HAS = 4;
        static final int HEAP = 5;
        static final int ASK = 6;
        static final int IF = 7;
        static final int OR = 8;
        static final int AND = 9;
        static final int NOT = 10;
        static final int FIRST = 11;

        final int[] bytes = new int[MOST];
        final int[] kinds = new int[MOST + 1];
        final int[] places = new int[MOST + 1];
        final int[] values = new int[MOST + 1];
        int size;
        int tokens;
        /** The fault of the text that is read, or 0. */
        int fault;

        void append(int number) {
            for (int shift = 24; shift >= 0 && size < MOST; shift -= 8) {
                bytes[size] = number >>> shift & 255;
                size++;
            }
        }

        void scan() {
            tokens = 0;
            fault = 0;
            int at = 0;
            for (int steps = 0; at < size && steps < MOST; steps++) {
                if (bytes[at] == ' ') {
                    at++;
                } else if (isDigit(bytes[at])) {
                    at = scanNumber(at);
                } else if (isLetter(bytes[at])) {
                    at = scanWord(at);
                } else {
                    at = scanSign(at);
                }
            }
            put(END, size, 0);
        }

        int kindAt(int token) {
            return token >= 0 && token < tokens ? kinds[token] : END;
        }

        int valueAt(int token) {
            return token >= 0 && token < tokens ? values[token] : NONE;
        }

        boolean isWord(int token, int word) {
            return token >= 0 && token < tokens && kinds[token] == WORD && values[token] == word;
        }

        /** A fault of a kind at a token; false, for the reader to hand on. */
        boolean wrong(int token, int kind) {
            int place = token >= 0 && token < tokens ? places[token] : size;
            fault = 1 + 8 * place + kind;
            return false;
        }

        private void put(int kind, int place, int value) {
            if (tokens < kinds.length) {
                kinds[tokens] = kind;
                places[tokens] = place;
                values[tokens] = value;
                tokens++;
            }
        }

        private static boolean isDigit(int sign) {
            return sign >= '0' && sign <= '9';
        }

        private static boolean isLetter(int sign) {
            return sign >= 'a' && sign <= 'z';
        }

        private int scanNumber(int from) {
            int value = 0;
            int to = from;
            while (to < size && isDigit(bytes[to])) {
                if (to - from < DIGITS) {
                    value = value * 10 + bytes[to] - '0';
                }
                to++;
            }
            put(NUMBER, from, to - from > DIGITS ? TOO_LONG : value);
            return to;
        }

        private int scanWord(int from) {
            int to = from;
            while (to < size && isLetter(bytes[to])) {
                to++;
            }
            int word = wordOf(from, to);
            put(word == NONE ? BAD : WORD, from, word);
            return to;
        }

        private int wordOf(int from, int to) {
            int number = 0;
            int i = 0;
            while (i < WORDS.length()) {
                int at = from;
                while (at < to && i < WORDS.length() && WORDS.charAt(i) == bytes[at]) {
                    at++;
                    i++;
                }
                if (at == to && (i >= WORDS.length() || WORDS.charAt(i) == ' ')) {
                    return number;
                }
                while (i < WORDS.length() && WORDS.charAt(i) != ' ') {
                    i++;
                }
                i++;
                number++;
            }
            return NONE;
        }

        private int scanSign(int at) {
            int sign = bytes[at];
            boolean widened = at + 1 < size && bytes[at + 1] == '=';
            if (sign == '<' && widened) {
                put(AT_MOST, at, 0);
                return at + 2;
            }
            if (sign == '>' && widened) {
                put(AT_LEAST, at, 0);
                return at + 2;
            }
            put(SIGNS.indexOf((char) sign) >= 0 ? sign : BAD, at, 0);
            return at + 1;
        }
    }

    /** Reads the text of a hill into one of its own, so that a fault leaves all as it is. */
    private static final class HillReader {
        static final int MOST_CLAUSES = 40;
        static final int MOST_BURDEN = 40;
        static final int MOST_WEIGHT = 9;
        static final int MOST_WORTH = 30;
        static final int MOST_PRICE = 30;
        static final int MOST_MONEY = 99;
        static final int MOST_HAD = 4;
        static final int MOST_HEAPED = 9;

        final Hill told = new Hill();
        int at;

        /** The fault, or 0. */
        int read(Tape tape) {
            tape.scan();
            told.clear();
            told.told = true;
            at = 0;
            boolean more = true;
            for (int clauses = 0; clauses <= MOST_CLAUSES && more && clause(tape, clauses); clauses++) {
                more = tape.kindAt(at) == ';';
                if (more) {
                    at++;
                } else if (tape.kindAt(at) != Tape.END) {
                    tape.wrong(at, 0);
                }
            }
            return tape.fault;
        }

        /** False at a fault, and so behind the last clause that there can be. */
        private boolean clause(Tape tape, int clausesBefore) {
            int word = tape.kindAt(at) == Tape.WORD ? tape.valueAt(at) : NONE;
            if (word < Tape.HILL || word > Tape.HEAP) {
                return tape.wrong(at, 0);
            }
            boolean misplaced = (word == Tape.HILL) != (clausesBefore == 0);
            if (clausesBefore >= MOST_CLAUSES || misplaced || isFull(word)) {
                return tape.wrong(at, 4);
            }
            at++;
            switch (word) {
                case Tape.HILL: return burdenClause(tape);
                case Tape.SORT: return sortClause(tape);
                case Tape.BEND: return bendClause(tape);
                case Tape.PILGRIM: return pilgrimClause(tape);
                case Tape.HAS: return hasClause(tape);
                default: return heapClause(tape);
            }
        }

        private boolean isFull(int word) {
            switch (word) {
                case Tape.SORT: return told.sorts >= SORTS;
                case Tape.BEND: return told.bends >= BENDS;
                case Tape.PILGRIM: return told.pilgrims >= PILGRIMS;
                default: return false;
            }
        }

        /** The number that comes next; NONE at a fault, or behind one. */
        private int number(Tape tape, int least, int most) {
            if (tape.fault != 0) {
                return NONE;
            }
            if (tape.kindAt(at) != Tape.NUMBER) {
                tape.wrong(at, 0);
                return NONE;
            }
            int value = tape.valueAt(at);
            if (value < least || value > most) {
                tape.wrong(at, 1);
                return NONE;
            }
            at++;
            return value;
        }

        private boolean burdenClause(Tape tape) {
            told.burden = number(tape, 1, MOST_BURDEN);
            return tape.fault == 0;
        }

        private boolean sortClause(Tape tape) {
            int weight = number(tape, 1, MOST_WEIGHT);
            int worth = number(tape, 0, MOST_WORTH);
            int price = number(tape, 1, MOST_PRICE);
            if (tape.fault != 0) {
                return false;
            }
            told.weight[told.sorts] = weight;
            told.worth[told.sorts] = worth;
            told.price[told.sorts] = price;
            told.sorts++;
            return true;
        }

        private boolean bendClause(Tape tape) {
            int first = number(tape, 0, told.sorts - 1);
            int second = number(tape, 0, told.sorts - 1);
            if (tape.fault != 0) {
                return false;
            }
            told.first[told.bends] = first;
            told.second[told.bends] = second;
            told.bends++;
            return true;
        }

        private boolean pilgrimClause(Tape tape) {
            int money = number(tape, 0, MOST_MONEY);
            if (tape.fault != 0) {
                return false;
            }
            told.begin.money[told.pilgrims] = money;
            told.pilgrims++;
            return true;
        }

        private boolean hasClause(Tape tape) {
            int pilgrim = number(tape, 0, told.pilgrims - 1);
            int sort = number(tape, 0, told.sorts - 1);
            if (tape.fault != 0) {
                return false;
            }
            int many = number(tape, 1, mostMore(pilgrim, sort));
            if (tape.fault != 0) {
                return false;
            }
            told.begin.has[pilgrim * SORTS + sort] += many;
            return true;
        }

        private int mostMore(int pilgrim, int sort) {
            int most = Math.min(MOST_HAD, MOST_OF_A_SORT - told.begin.has[pilgrim * SORTS + sort]);
            int room = told.burden - told.begin.weightOf(told, pilgrim);
            return Math.min(most, room / Math.max(1, told.weight[sort]));
        }

        private boolean heapClause(Tape tape) {
            int bend = number(tape, 0, told.bends - 1);
            int sort = number(tape, 0, told.sorts - 1);
            int many = number(tape, 0, MOST_HEAPED);
            if (tape.fault != 0) {
                return false;
            }
            told.begin.heap[bend * SORTS + sort] = many;
            return true;
        }
    }

    /** A rule, as code in which what is joined comes ahead of the sign that joins it. */
    private static final class Rule {
        static final int MOST_CLAUSES = 12;
        static final int MOST_DEPTH = 10;
        static final int MOST_USED = 60;

        // In the code: words of a bend as their places in the row of words, then signs, then numbers.
        static final int WORD_BEND = 0;
        static final int WORD_FIRST = 1;
        static final int WORD_SECOND = 2;
        static final int WORD_ASKS = 3;
        static final int WORD_NIGHT = 4;
        static final int WORD_ONES = 5;
        static final int WORD_TWOS = 6;
        static final int WORD_PASSED = 7;
        static final int WORD_HERE = 8;
        static final int WORD_HEAP = 9;
        static final int WORDS = 10;
        static final int JOIN_AND = 140;
        static final int JOIN_OR = 141;
        static final int TURN_NOT = 142;
        static final int NUMBERS = 1000;

        final int[] code = new int[Tape.MOST + 1];
        final int[] sumFrom = new int[MOST_CLAUSES];
        final int[] testFrom = new int[MOST_CLAUSES];
        final int[] clauseTo = new int[MOST_CLAUSES];
        int clauses;
        int size;
        int at;
        int used;

        /** The fault, or 0. */
        int read(Tape tape) {
            tape.scan();
            clauses = 0;
            size = 0;
            at = 0;
            used = 0;
            boolean more = true;
            for (int i = 0; i <= MOST_CLAUSES && more && beginsClause(tape) && sum(tape); i++) {
                testFrom[clauses] = size;
                if (tape.isWord(at, Tape.IF)) {
                    at++;
                    if (!test(tape, 0)) {
                        return tape.fault;
                    }
                }
                clauseTo[clauses] = size;
                clauses++;
                more = tape.kindAt(at) == ';';
                if (more) {
                    at++;
                } else if (tape.kindAt(at) != Tape.END) {
                    tape.wrong(at, 0);
                }
            }
            return tape.fault;
        }

        /** False at a fault, and so behind the last clause that there can be. */
        private boolean beginsClause(Tape tape) {
            if (!tape.isWord(at, Tape.ASK)) {
                return tape.wrong(at, 0);
            }
            if (clauses >= MOST_CLAUSES) {
                return tape.wrong(at, 4);
            }
            sumFrom[clauses] = size;
            at++;
            return true;
        }

        private void emit(int item) {
            if (size < code.length) {
                code[size] = item;
                size++;
            }
        }

        private boolean test(Tape tape, int depth) {
            boolean andWaits = false;
            boolean orWaits = false;
            boolean more = true;
            for (int facts = 0; more && facts < Tape.MOST; facts++) {
                if (!fact(tape, depth)) {
                    return false;
                }
                if (andWaits) {
                    emit(JOIN_AND);
                }
                andWaits = tape.isWord(at, Tape.AND);
                if (orWaits && !andWaits) {
                    emit(JOIN_OR);
                }
                boolean orComes = tape.isWord(at, Tape.OR);
                orWaits = orWaits || orComes;
                more = andWaits || orComes;
                if (more) {
                    at++;
                }
            }
            return true;
        }

        private boolean fact(Tape tape, int depth) {
            boolean turns = tape.isWord(at, Tape.NOT);
            if (!turns && tape.kindAt(at) != '[') {
                return comparison(tape);
            }
            if (depth >= MOST_DEPTH) {
                return tape.wrong(at, 2);
            }
            at++;
            if (turns) {
                if (!fact(tape, depth + 1)) {
                    return false;
                }
                emit(TURN_NOT);
                return true;
            }
            if (!test(tape, depth + 1)) {
                return false;
            }
            if (tape.kindAt(at) != ']') {
                return tape.wrong(at, 0);
            }
            at++;
            return true;
        }

        private boolean comparison(Tape tape) {
            if (!sum(tape)) {
                return false;
            }
            int sign = tape.kindAt(at);
            boolean wide = sign == Tape.AT_MOST || sign == Tape.AT_LEAST;
            if (!wide && sign != '<' && sign != '=' && sign != '>') {
                return tape.wrong(at, 0);
            }
            if (used >= MOST_USED) {
                return tape.wrong(at, 3);
            }
            used++;
            at++;
            if (!sum(tape)) {
                return false;
            }
            emit(sign);
            return true;
        }

        private boolean sum(Tape tape) {
            int inTerm = 0;
            int inSum = 0;
            boolean more = true;
            for (int values = 0; more && values < Tape.MOST; values++) {
                if (!value(tape)) {
                    return false;
                }
                if (inTerm != 0) {
                    emit(inTerm);
                }
                int sign = tape.kindAt(at);
                inTerm = sign == '*' || sign == '/' || sign == '%' ? sign : 0;
                if (inSum != 0 && inTerm == 0) {
                    emit(inSum);
                }
                boolean adds = sign == '+' || sign == '-';
                inSum = adds ? sign : inSum;
                more = adds || inTerm != 0;
                if (more) {
                    at++;
                }
            }
            return true;
        }

        private boolean value(Tape tape) {
            boolean isNumber = tape.kindAt(at) == Tape.NUMBER;
            int word = tape.kindAt(at) == Tape.WORD ? wordOfBend(tape.valueAt(at)) : NONE;
            if (!isNumber && word == NONE) {
                return tape.wrong(at, 0);
            }
            if (isNumber && tape.valueAt(at) == Tape.TOO_LONG) {
                return tape.wrong(at, 1);
            }
            if (used >= MOST_USED) {
                return tape.wrong(at, 3);
            }
            used++;
            emit(isNumber ? NUMBERS + tape.valueAt(at) : word);
            at++;
            return true;
        }

        private static int wordOfBend(int word) {
            if (word == Tape.BEND) {
                return WORD_BEND;
            }
            if (word == Tape.HEAP) {
                return WORD_HEAP;
            }
            // From "first" on the words of the tape stand in the order of the words here.
            return word >= Tape.FIRST ? word - Tape.FIRST + WORD_FIRST : NONE;
        }

        /** The sum of the first clause that counts for a bend with these words; 0 without one. */
        long valueFor(long[] words, long[] stack) {
            for (int i = 0; i < clauses; i++) {
                boolean untested = testFrom[i] == clauseTo[i];
                if (untested || work(testFrom[i], clauseTo[i], words, stack) != 0) {
                    return work(sumFrom[i], testFrom[i], words, stack);
                }
            }
            return 0;
        }

        private long work(int from, int to, long[] words, long[] stack) {
            int top = 0;
            for (int i = from; i < to; i++) {
                int item = code[i];
                if (item >= NUMBERS || item < WORDS) {
                    if (top < stack.length) {
                        stack[top] = item >= NUMBERS ? item - NUMBERS : words[item];
                        top++;
                    }
                } else if (item == TURN_NOT) {
                    if (top >= 1) {
                        stack[top - 1] = stack[top - 1] == 0 ? 1 : 0;
                    }
                } else if (top >= 2) {
                    top--;
                    stack[top - 1] = joined(item, stack[top - 1], stack[top]);
                }
            }
            return top >= 1 ? stack[top - 1] : 0;
        }

        private static long joined(int sign, long a, long b) {
            switch (sign) {
                case '+': return a + b;
                case '-': return a - b;
                case '*': return a * b;
                case '/': return b == 0 ? 0 : a / b;
                case '%': return b == 0 ? 0 : a % b;
                case '<': return a < b ? 1 : 0;
                case '=': return a == b ? 1 : 0;
                case '>': return a > b ? 1 : 0;
                case Tape.AT_MOST: return a <= b ? 1 : 0;
                case Tape.AT_LEAST: return a >= b ? 1 : 0;
                case JOIN_AND: return a & b;
                default: return a | b;
            }
        }
    }

    /** What the text of a hill told, with all as it is at the begin. */
    private static final class Hill {
        final int[] weight = new int[SORTS];
        final int[] worth = new int[SORTS];
        final int[] price = new int[SORTS];
        final int[] first = new int[BENDS];
        final int[] second = new int[BENDS];
        final Scene begin = new Scene();
        boolean told;
        int burden;
        int sorts;
        int bends;
        int pilgrims;

        void clear() {
            told = false;
            burden = 0;
            sorts = 0;
            bends = 0;
            pilgrims = 0;
            begin.clear();
        }

        void copyFrom(Hill other) {
            System.arraycopy(other.weight, 0, weight, 0, SORTS);
            System.arraycopy(other.worth, 0, worth, 0, SORTS);
            System.arraycopy(other.price, 0, price, 0, SORTS);
            System.arraycopy(other.first, 0, first, 0, BENDS);
            System.arraycopy(other.second, 0, second, 0, BENDS);
            begin.copyFrom(other.begin);
            told = other.told;
            burden = other.burden;
            sorts = other.sorts;
            bends = other.bends;
            pilgrims = other.pilgrims;
        }

        int askedAt(int bend, int seconds) {
            return (seconds >> bend & 1) == 0 ? first[bend] : second[bend];
        }

        /** Of the bends that ask for their second those whose second is another sort. */
        int turned(int seconds) {
            int bits = 0;
            for (int bend = 0; bend < bends; bend++) {
                if (askedAt(bend, seconds) != first[bend]) {
                    bits |= 1 << bend;
                }
            }
            return bits;
        }
    }

    /** All that acts change. */
    private static final class Scene {
        static final int MOST_IN_HEAP = 99;
        static final int MOST_MONEY = 999;

        final int[] height = new int[PILGRIMS];
        final int[] money = new int[PILGRIMS];
        final int[] left = new int[PILGRIMS];
        final int[] taken = new int[PILGRIMS];
        final int[] has = new int[PILGRIMS * SORTS];
        final int[] heap = new int[BENDS * SORTS];
        /** Which bends ask for their second, as bits. */
        int seconds;
        int night;

        void clear() {
            for (int i = 0; i < PILGRIMS; i++) {
                height[i] = 0;
                money[i] = 0;
                left[i] = 0;
                taken[i] = 0;
            }
            for (int i = 0; i < has.length; i++) {
                has[i] = 0;
            }
            for (int i = 0; i < heap.length; i++) {
                heap[i] = 0;
            }
            seconds = 0;
            night = 0;
        }

        void copyFrom(Scene other) {
            System.arraycopy(other.height, 0, height, 0, PILGRIMS);
            System.arraycopy(other.money, 0, money, 0, PILGRIMS);
            System.arraycopy(other.left, 0, left, 0, PILGRIMS);
            System.arraycopy(other.taken, 0, taken, 0, PILGRIMS);
            System.arraycopy(other.has, 0, has, 0, PILGRIMS * SORTS);
            System.arraycopy(other.heap, 0, heap, 0, BENDS * SORTS);
            seconds = other.seconds;
            night = other.night;
        }

        int weightOf(Hill hill, int pilgrim) {
            int weight = 0;
            for (int sort = 0; sort < hill.sorts; sort++) {
                weight += has[pilgrim * SORTS + sort] * hill.weight[sort];
            }
            return weight;
        }

        int wealthOf(Hill hill, int pilgrim) {
            int worth = money[pilgrim];
            for (int sort = 0; sort < hill.sorts; sort++) {
                worth += has[pilgrim * SORTS + sort] * hill.worth[sort];
            }
            return worth;
        }

        int atTop(Hill hill) {
            int bits = 0;
            for (int pilgrim = 0; pilgrim < hill.pilgrims; pilgrim++) {
                if (height[pilgrim] >= hill.bends) {
                    bits |= 1 << pilgrim;
                }
            }
            return bits;
        }

        int lying() {
            int things = 0;
            for (int i = 0; i < heap.length; i++) {
                things += heap[i];
            }
            return things;
        }

        boolean canCarry(Hill hill, int pilgrim, int sort) {
            return has[pilgrim * SORTS + sort] < MOST_OF_A_SORT
                    && weightOf(hill, pilgrim) + hill.weight[sort] <= hill.burden;
        }

        boolean canGoUp(Hill hill, int pilgrim) {
            int bend = height[pilgrim];
            return bend < hill.bends && has[pilgrim * SORTS + hill.askedAt(bend, seconds)] > 0;
        }

        /** Only where it can be. */
        void goUp(Hill hill, int pilgrim) {
            int bend = height[pilgrim];
            int sort = hill.askedAt(bend, seconds);
            int place = bend * SORTS + sort;
            has[pilgrim * SORTS + sort]--;
            heap[place] = Math.min(MOST_IN_HEAP, heap[place] + 1);
            height[pilgrim]++;
            left[pilgrim]++;
        }

        boolean canPick(Hill hill, int pilgrim, int sort) {
            int bend = height[pilgrim] - 1;
            return bend >= 0 && heap[bend * SORTS + sort] > 0
                    && left[pilgrim] > taken[pilgrim] && canCarry(hill, pilgrim, sort);
        }

        /** Only where it can be. */
        void pick(int pilgrim, int sort) {
            heap[(height[pilgrim] - 1) * SORTS + sort]--;
            has[pilgrim * SORTS + sort]++;
            taken[pilgrim]++;
        }

        boolean canPay(Hill hill, int pilgrim, int sort) {
            return height[pilgrim] == 0 && money[pilgrim] >= hill.price[sort] && canCarry(hill, pilgrim, sort);
        }

        boolean canPart(int pilgrim, int sort) {
            return height[pilgrim] == 0 && has[pilgrim * SORTS + sort] > 0;
        }

        /** Only where it can be. */
        void part(Hill hill, int pilgrim, int sort) {
            has[pilgrim * SORTS + sort]--;
            money[pilgrim] = Math.min(MOST_MONEY, money[pilgrim] + hill.price[sort] / 2);
        }
    }

    /** All that an image holds. */
    private static final class World {
        final Hill hill = new Hill();
        final Scene now = new Scene();
        final int[] leaves = new int[SORTS];
        final int[] noteNight = new int[NOTES];
        final int[] noteBend = new int[NOTES];
        final int[] noteSort = new int[NOTES];
        int notes;
        int force = NONE;
        int x;

        void begin(Hill told) {
            hill.copyFrom(told);
            now.copyFrom(told.begin);
            for (int sort = 0; sort < SORTS; sort++) {
                leaves[sort] = 0;
            }
            notes = 0;
        }

        void copyFrom(World other) {
            hill.copyFrom(other.hill);
            now.copyFrom(other.now);
            System.arraycopy(other.leaves, 0, leaves, 0, SORTS);
            System.arraycopy(other.noteNight, 0, noteNight, 0, NOTES);
            System.arraycopy(other.noteBend, 0, noteBend, 0, NOTES);
            System.arraycopy(other.noteSort, 0, noteSort, 0, NOTES);
            notes = other.notes;
            force = other.force;
            x = other.x;
        }
    }

    /** The scenes ahead of the last acts, in a ring. */
    private static final class History {
        static final int MOST = 20;

        final Scene[] scenes = new Scene[MOST];
        int size;
        int next;

        History() {
            for (int i = 0; i < MOST; i++) {
                scenes[i] = new Scene();
            }
        }

        void clear() {
            size = 0;
        }

        void keep(Scene scene) {
            scenes[next].copyFrom(scene);
            next = next + 1 < MOST ? next + 1 : 0;
            size = Math.min(MOST, size + 1);
        }

        boolean restore(Scene scene) {
            if (size == 0) {
                return false;
            }
            next = next > 0 ? next - 1 : MOST - 1;
            size--;
            scene.copyFrom(scenes[next]);
            return true;
        }
    }

    /** Nights by a rule, and years of them. */
    private static final class Nights {
        static final int LOW_31_BITS = 2147483647;

        final long[] words = new long[Rule.WORDS];
        final long[] stack = new long[Rule.MOST_USED + 4];
        final Scene scene = new Scene();
        int x;
        int heights;
        int things;

        /** A night, by no rule if it is null. */
        void pass(Hill hill, Scene now, Rule rule) {
            int seconds = 0;
            for (int bend = 0; bend < hill.bends; bend++) {
                boolean asksSecond;
                if (rule == null) {
                    asksSecond = (now.seconds >> bend & 1) == 0;
                } else {
                    fillWords(hill, now, bend);
                    asksSecond = rule.valueFor(words, stack) <= 0;
                }
                if (asksSecond) {
                    seconds |= 1 << bend;
                }
            }
            now.seconds = seconds;
            now.night = Math.min(LAST_NIGHT, now.night + 1);
        }

        private void fillWords(Hill hill, Scene now, int bend) {
            int place = bend * SORTS;
            words[Rule.WORD_BEND] = bend;
            words[Rule.WORD_FIRST] = hill.first[bend];
            words[Rule.WORD_SECOND] = hill.second[bend];
            words[Rule.WORD_ASKS] = hill.askedAt(bend, now.seconds);
            words[Rule.WORD_NIGHT] = now.night;
            words[Rule.WORD_ONES] = now.heap[place + hill.first[bend]];
            words[Rule.WORD_TWOS] = now.heap[place + hill.second[bend]];
            int all = 0;
            for (int sort = 0; sort < hill.sorts; sort++) {
                all += now.heap[place + sort];
            }
            words[Rule.WORD_HEAP] = all;
            int passed = 0;
            int here = 0;
            for (int pilgrim = 0; pilgrim < hill.pilgrims; pilgrim++) {
                if (now.height[pilgrim] > bend) {
                    passed++;
                } else if (now.height[pilgrim] == bend) {
                    here++;
                }
            }
            words[Rule.WORD_PASSED] = passed;
            words[Rule.WORD_HERE] = here;
        }

        /** m times n nights from now on, on a scene of its own. */
        void runYears(World world, Rule rule, int m, int n) {
            x = world.x;
            heights = 0;
            things = 0;
            for (int year = 0; year < m; year++) {
                scene.copyFrom(world.now);
                for (int i = 0; i < n; i++) {
                    moveAll(world.hill);
                    pass(world.hill, scene, rule);
                }
                for (int pilgrim = 0; pilgrim < world.hill.pilgrims; pilgrim++) {
                    heights += scene.height[pilgrim];
                }
            }
        }

        private void moveAll(Hill hill) {
            for (int pilgrim = 0; pilgrim < hill.pilgrims; pilgrim++) {
                // Modulo 2147483648 is what the low 31 bits are, which going round in 32 bits keeps.
                x = x * 1103515245 + 12345 & LOW_31_BITS;
                if (x / 65536 % 4 == 0) {
                    scene.height[pilgrim] = Math.max(0, scene.height[pilgrim] - 1);
                } else if (scene.canGoUp(hill, pilgrim)) {
                    scene.goUp(hill, pilgrim);
                    things++;
                }
            }
        }
    }

    /** By how many ways one comes up, and what it would take. */
    private static final class Chances {
        static final int MOST_BOUGHT = 3;
        static final int BITS_A_SORT = 2;

        final int[] stock = new int[SORTS];
        final int[] need = new int[SORTS];
        final int[] bagRow = new int[SORTS];
        /** By how many of each sort are bought, two bits a sort, the first sort highest. */
        final int[] byBag = new int[1 << BITS_A_SORT * SORTS];
        int bagWays;
        int bagPrice;

        private void stockUp(Scene now, int pilgrim) {
            for (int sort = 0; sort < SORTS; sort++) {
                stock[sort] = now.has[pilgrim * SORTS + sort];
            }
        }

        /** How high one comes; the stock is what is had then. */
        int reached(Hill hill, Scene now, int pilgrim) {
            stockUp(now, pilgrim);
            int bend = now.height[pilgrim];
            while (bend < hill.bends && stock[hill.askedAt(bend, now.seconds)] > 0) {
                stock[hill.askedAt(bend, now.seconds)]--;
                bend++;
            }
            return bend;
        }

        void lackNow(Hill hill, Scene now, int pilgrim) {
            clearNeed();
            for (int bend = now.height[pilgrim]; bend < hill.bends; bend++) {
                need[hill.askedAt(bend, now.seconds)]++;
            }
            lessenNeed(now, pilgrim);
        }

        void lackEver(Hill hill, Scene now, int pilgrim) {
            clearNeed();
            for (int bend = now.height[pilgrim]; bend < hill.bends; bend++) {
                need[hill.first[bend]]++;
                if (hill.second[bend] != hill.first[bend]) {
                    need[hill.second[bend]]++;
                }
            }
            lessenNeed(now, pilgrim);
        }

        private void clearNeed() {
            for (int sort = 0; sort < SORTS; sort++) {
                need[sort] = 0;
            }
        }

        private void lessenNeed(Scene now, int pilgrim) {
            for (int sort = 0; sort < SORTS; sort++) {
                need[sort] = Math.max(0, need[sort] - now.has[pilgrim * SORTS + sort]);
            }
        }

        int priceOfNeed(Hill hill) {
            int price = 0;
            for (int sort = 0; sort < hill.sorts; sort++) {
                price += need[sort] * hill.price[sort];
            }
            return price;
        }

        /** By how many ways one comes up, without a bend, or with all (NONE). */
        int waysUp(Hill hill, Scene now, int pilgrim, int without) {
            stockUp(now, pilgrim);
            return waysFrom(hill, now.height[pilgrim], without, 1);
        }

        int waysOfTwo(Hill hill, Scene now, int one, int other) {
            stockUp(now, one);
            for (int sort = 0; sort < SORTS; sort++) {
                stock[sort] += now.has[other * SORTS + sort];
            }
            return waysFrom(hill, now.height[one], NONE, 2);
        }

        /** Each bend from one on asks for its first or its second, and has so many of it from the stock. */
        private int waysFrom(Hill hill, int bend, int without, int many) {
            if (bend >= hill.bends) {
                return 1;
            }
            if (bend == without) {
                return waysFrom(hill, bend + 1, without, many);
            }
            int ways = 0;
            for (int seconds = 0; seconds <= 1; seconds++) {
                int sort = hill.askedAt(bend, seconds << bend);
                if (stock[sort] >= many) {
                    stock[sort] -= many;
                    ways += waysFrom(hill, bend + 1, without, many);
                    stock[sort] += many;
                }
            }
            return ways;
        }

        /** The best bag of one at the foot. */
        void packBag(Hill hill, Scene now, int pilgrim) {
            int bags = 1 << BITS_A_SORT * hill.sorts;
            countByNeed(hill, now, pilgrim, bags);
            countByBag(hill, bags);
            bagWays = NONE;
            bagPrice = 0;
            int best = 0;
            for (int bag = 0; bag < bags; bag++) {
                int price = byBag[bag] >= bagWays ? priceIfBuyable(hill, now, pilgrim, bag) : NONE;
                boolean better = byBag[bag] > bagWays || price < bagPrice;
                if (price >= 0 && better) {
                    bagWays = byBag[bag];
                    bagPrice = price;
                    best = bag;
                }
            }
            for (int sort = 0; sort < SORTS; sort++) {
                bagRow[sort] = sort < hill.sorts ? inBag(hill, best, sort) : 0;
            }
        }

        /** The ways that need just a bag. */
        private void countByNeed(Hill hill, Scene now, int pilgrim, int bags) {
            for (int bag = 0; bag < bags; bag++) {
                byBag[bag] = 0;
            }
            for (int seconds = 0; seconds < 1 << hill.bends; seconds++) {
                clearNeed();
                for (int bend = 0; bend < hill.bends; bend++) {
                    need[hill.askedAt(bend, seconds)]++;
                }
                lessenNeed(now, pilgrim);
                int bag = bagOfNeed(hill);
                if (bag >= 0) {
                    byBag[bag]++;
                }
            }
        }

        private int bagOfNeed(Hill hill) {
            int bag = 0;
            for (int sort = 0; sort < hill.sorts; sort++) {
                if (need[sort] > MOST_BOUGHT) {
                    return NONE;
                }
                bag = bag << BITS_A_SORT | need[sort];
            }
            return bag;
        }

        /** From the ways that need just a bag to those for which it is enough: sums along each sort. */
        private void countByBag(Hill hill, int bags) {
            for (int sort = 0; sort < hill.sorts; sort++) {
                int step = 1 << shiftOf(hill, sort);
                for (int bag = step; bag < bags; bag++) {
                    if (inBag(hill, bag, sort) > 0) {
                        byBag[bag] += byBag[bag - step];
                    }
                }
            }
        }

        private static int shiftOf(Hill hill, int sort) {
            return BITS_A_SORT * (hill.sorts - 1 - sort);
        }

        private static int inBag(Hill hill, int bag, int sort) {
            return bag >> shiftOf(hill, sort) & MOST_BOUGHT;
        }

        /** The price of a bag, or NONE if it can't be bought or carried. */
        private static int priceIfBuyable(Hill hill, Scene now, int pilgrim, int bag) {
            int price = 0;
            int weight = now.weightOf(hill, pilgrim);
            for (int sort = 0; sort < hill.sorts; sort++) {
                int many = inBag(hill, bag, sort);
                if (now.has[pilgrim * SORTS + sort] + many > MOST_OF_A_SORT) {
                    return NONE;
                }
                price += many * hill.price[sort];
                weight += many * hill.weight[sort];
            }
            return price <= now.money[pilgrim] && weight <= hill.burden ? price : NONE;
        }
    }

    /** Rows that are chosen: what to take coming down, and what a monk left. */
    private static final class Choices {
        /** Above all that can be taken at once, so that one thing less never outweighs worth. */
        static final int WORTH_UNIT = 64;

        final int[] limit = new int[SORTS];
        final int[] gain = new int[SORTS];
        final int[] row = new int[BENDS];
        final int[] best = new int[SORTS];
        int bestScore;

        final int[] unplaced = new int[SORTS];
        final int[] can = new int[BENDS];
        final int[] firstRow = new int[BENDS];
        int things;

        void pickDownwards(Hill hill, Scene now, int pilgrim) {
            for (int sort = 0; sort < SORTS; sort++) {
                best[sort] = 0;
                row[sort] = 0;
            }
            for (int sort = 0; sort < hill.sorts; sort++) {
                gain[sort] = hill.worth[sort] * WORTH_UNIT - 1;
                limit[sort] = hill.worth[sort] > 0 ? mostOf(now, pilgrim, sort) : 0;
            }
            bestScore = 0;
            int many = now.left[pilgrim] - now.taken[pilgrim];
            pickFrom(hill, 0, hill.burden - now.weightOf(hill, pilgrim), many, 0);
        }

        private static int mostOf(Scene now, int pilgrim, int sort) {
            int lying = 0;
            for (int bend = 0; bend < now.height[pilgrim]; bend++) {
                lying += now.heap[bend * SORTS + sort];
            }
            return Math.min(lying, MOST_OF_A_SORT - now.has[pilgrim * SORTS + sort]);
        }

        /** Rows come in their order, so that only a better one takes the place of the best. */
        private void pickFrom(Hill hill, int sort, int room, int many, int score) {
            if (sort >= hill.sorts) {
                if (score > bestScore) {
                    bestScore = score;
                    System.arraycopy(row, 0, best, 0, SORTS);
                }
                return;
            }
            // A thing weighs 1 at least, so that the room bounds how many there can be, too.
            if (score + Math.min(many, room) * mostGainFrom(hill, sort) <= bestScore) {
                return;
            }
            int weight = hill.weight[sort];
            for (int n = 0; n <= limit[sort] && n <= many && n * weight <= room; n++) {
                row[sort] = n;
                pickFrom(hill, sort + 1, room - n * weight, many - n, score + n * gain[sort]);
            }
        }

        private int mostGainFrom(Hill hill, int from) {
            int most = 0;
            for (int sort = from; sort < hill.sorts; sort++) {
                if (limit[sort] > 0) {
                    most = Math.max(most, gain[sort]);
                }
            }
            return most;
        }

        int worthOfBest(Hill hill) {
            int worth = 0;
            for (int sort = 0; sort < hill.sorts; sort++) {
                worth += best[sort] * hill.worth[sort];
            }
            return worth;
        }

        /** How many rows there are; what each bend can have had and the first row stand in their fields. */
        int countGifts(Hill hill, int[] leaves) {
            things = 0;
            for (int sort = 0; sort < SORTS; sort++) {
                unplaced[sort] = leaves[sort];
                things += leaves[sort];
            }
            for (int bend = 0; bend < BENDS; bend++) {
                can[bend] = 0;
                firstRow[bend] = -2;
            }
            return things > hill.bends ? 0 : giftsFrom(hill, 0, 0);
        }

        private int giftsFrom(Hill hill, int bend, int rowsBefore) {
            if (bend >= things) {
                if (rowsBefore == 0) {
                    System.arraycopy(row, 0, firstRow, 0, things);
                }
                return 1;
            }
            int choices = hill.first[bend] == hill.second[bend] ? 1 : 2;
            int rows = 0;
            for (int seconds = 0; seconds < choices; seconds++) {
                int sort = hill.askedAt(bend, seconds << bend);
                if (unplaced[sort] > 0) {
                    unplaced[sort]--;
                    row[bend] = sort;
                    int more = giftsFrom(hill, bend + 1, rowsBefore + rows);
                    unplaced[sort]++;
                    if (more > 0) {
                        can[bend] |= 1 << sort;
                    }
                    rows += more;
                }
            }
            return rows;
        }
    }

    /** What bends ask for from the begin on by each rule, if nobody climbs. */
    private static final class Forecast {
        static final int NIGHTS = LAST_NOTED_NIGHT + 1;

        /** Which bends ask for their second, by candidate and night: candidate 0 is to have no rule. */
        final int[] seconds = new int[(RULES + 1) * NIGHTS];
        final int[] alike = new int[SORTS];
        final Scene scene = new Scene();
        int foreseen;

        /** Rules never change, so that only another hill asks for it all anew. */
        void forget() {
            foreseen = 0;
        }

        void foresee(Hill hill, Nights nights, Rule rule, int candidate) {
            if ((foreseen >> candidate & 1) != 0) {
                return;
            }
            foreseen |= 1 << candidate;
            scene.copyFrom(hill.begin);
            for (int n = 0; n < NIGHTS; n++) {
                seconds[candidate * NIGHTS + n] = scene.seconds;
                nights.pass(hill, scene, rule);
            }
        }

        boolean agrees(World world, int candidate) {
            for (int i = 0; i < world.notes; i++) {
                int bits = seconds[candidate * NIGHTS + world.noteNight[i]];
                if (world.hill.askedAt(world.noteBend[i], bits) != world.noteSort[i]) {
                    return false;
                }
            }
            return true;
        }

        /** How many of the candidates ask for the sort most of them ask for. */
        int mostAlike(Hill hill, int candidates, int bend, int n) {
            for (int sort = 0; sort < SORTS; sort++) {
                alike[sort] = 0;
            }
            int most = 0;
            for (int candidate = 0; candidate <= RULES; candidate++) {
                if ((candidates >> candidate & 1) != 0) {
                    int sort = hill.askedAt(bend, seconds[candidate * NIGHTS + n]);
                    alike[sort]++;
                    most = Math.max(most, alike[sort]);
                }
            }
            return most;
        }
    }
}
