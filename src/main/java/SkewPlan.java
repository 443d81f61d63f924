/** Clock arrivals shifted on purpose, so that long paths borrow time from short ones. */
public final class SkewPlan {
    public static final int NONE = -1, UNKNOWN = -2, OUTSIDE = -3, NOT = -4, FULL = -5, NULL = -11, SIZE = -12, CAST = -13, INDEX = -14;

    private static final int MOST_REGISTERS = 8;
    private static final int MOST_PATHS = 16;
    private static final int MOST_DELAY = 199;
    private static final int MOST_TOLD_DELAY = 99;
    private static final int MOST_PERIOD = 999;
    private static final int MOST_SLOWER = 20;
    private static final int MOST_MARGIN = 1200;
    private static final int MOST_LETTERS = 200;
    private static final int MOST_LETTER = 255;
    private static final int MOST_CLAUSES = 24;
    private static final int MOST_DIGITS = 3;
    private static final int MOST_UNDONE = 8;
    private static final int KEPT_NETS = 2;
    private static final int TRACES = 3;
    private static final int MOST_PLACES = 8;
    private static final int MOST_PART = 9999;
    private static final int FLOATS = 0;
    private static final int DOUBLES = 1;
    /** Added to what may be below 0, so that it is not taken for a refusal. */
    private static final int RAISED = 2000;

    private final Text text;
    private final Net told;
    private final Net now;
    private final Net scratch;
    private final Net[] kept;
    private final boolean[] isKept;
    private final History history;
    private final Planner planner;
    private final Trace[] traces;

    public SkewPlan() {
        text = new Text();
        told = new Net();
        now = new Net();
        scratch = new Net();
        kept = new Net[KEPT_NETS];
        for (int k = 0; k < KEPT_NETS; k++) {
            kept[k] = new Net();
        }
        isKept = new boolean[KEPT_NETS];
        history = new History();
        planner = new Planner();
        traces = new Trace[TRACES];
        for (int trace = 0; trace < TRACES; trace++) {
            traces[trace] = new Trace();
        }
    }

    // ---- what is told

    public int write(int letter) {
        if (!isWithin(letter, 0, MOST_LETTER)) {
            return OUTSIDE;
        }
        return text.append((char) letter) ? text.letterCount() : FULL;
    }

    public int erase() {
        int letters = text.letterCount();
        text.clear();
        return letters;
    }

    public int fault() {
        return text.read(told, scratch);
    }

    public int net() {
        if (text.read(told, scratch) != NONE) {
            return NOT;
        }
        told.copyFrom(scratch);
        now.copyFrom(told);
        history.clear();
        for (int k = 0; k < KEPT_NETS; k++) {
            isKept[k] = false;
        }
        for (int trace = 0; trace < TRACES; trace++) {
            traces[trace].lose();
        }
        text.clear();
        return text.clauseCount();
    }

    public int path(int path, int what) {
        if (!isPath(path)) {
            return UNKNOWN;
        }
        switch (what) {
            case 0:
                return now.from[path];
            case 1:
                return now.to[path];
            case 2:
                return now.longs[path];
            case 3:
                return now.shorts[path];
            case 4:
                return RAISED + now.lateBound(path);
            case 5:
                return RAISED + now.soonBound(path);
            default:
                return OUTSIDE;
        }
    }

    // ---- what is done

    public int period(int t) {
        if (!isWithin(t, 0, MOST_PERIOD)) {
            return OUTSIDE;
        }
        int before = now.period;
        if (t == before) {
            return NOT;
        }
        history.push(NONE, before);
        now.period = t;
        return before;
    }

    public int slower(int path, int n) {
        if (!isPath(path)) {
            return UNKNOWN;
        }
        if (!isWithin(n, 1, MOST_SLOWER)) {
            return OUTSIDE;
        }
        if (!now.canBeSlower(path, n)) {
            return NOT;
        }
        history.push(path, n);
        now.delay(path, n);
        return now.longs[path];
    }

    public int undo() {
        if (history.size() == 0) {
            return NOT;
        }
        history.revertLatest(now);
        return history.size();
    }

    public int keep(int k) {
        if (!isKeptPlace(k)) {
            return UNKNOWN;
        }
        kept[k].copyFrom(now);
        isKept[k] = true;
        return now.period;
    }

    public int back(int k) {
        if (!isKeptPlace(k)) {
            return UNKNOWN;
        }
        if (!isKept[k]) {
            return NOT;
        }
        now.copyFrom(kept[k]);
        history.clear();
        return now.period;
    }

    // ---- foretold

    public int feasible() {
        return planner.settlesNow(now) ? 1 : 0;
    }

    public int shift(int register) {
        if (!isWithin(register, 0, now.registers - 1)) {
            return UNKNOWN;
        }
        if (!planner.settlesNow(now)) {
            return NOT;
        }
        return -planner.shiftOf(register) * now.step;
    }

    public int least() {
        return planner.leastPeriod(now);
    }

    public int rate(int part) {
        if (!isWithin(part, 0, 1)) {
            return OUTSIDE;
        }
        if (!planner.findRate(now)) {
            return NONE;
        }
        return part == 0 ? planner.rateAbove() : planner.rateBelow();
    }

    public int margin() {
        return RAISED + planner.greatestMargin(now);
    }

    public int spare(int path, int what) {
        if (!isPath(path)) {
            return UNKNOWN;
        }
        if (!isWithin(what, 0, 1)) {
            return OUTSIDE;
        }
        if (!planner.settlesNow(now)) {
            return NOT;
        }
        int steps = planner.shiftOf(now.from[path]) - planner.shiftOf(now.to[path]);
        int apart = steps * now.step;
        return what == 0 ? now.lateBound(path) - apart : now.soonBound(path) + apart;
    }

    public int cycle(int k) {
        if (k < 0) {
            return OUTSIDE;
        }
        // a net that settles has no ring: the search for one need not begin
        if (planner.settlesNow(now) || !planner.findRing()) {
            return NONE;
        }
        return k < planner.ringLength() ? planner.ringRegister(k) : NONE;
    }

    public int buffer(int n) {
        if (!isWithin(n, 1, MOST_SLOWER)) {
            return OUTSIDE;
        }
        int best = NONE;
        int bestPeriod = orAboveAll(planner.leastPeriod(now));
        for (int path = 0; path < now.paths; path++) {
            if (!now.canBeSlower(path, n)) {
                continue;
            }
            scratch.copyFrom(now);
            scratch.delay(path, n);
            int period = orAboveAll(planner.leastPeriod(scratch));
            if (period < bestPeriod) {
                best = path;
                bestPeriod = period;
            }
        }
        return best;
    }

    // ---- traces

    public int trace(int trace, int sort, int n) {
        if (!isTrace(trace)) {
            return UNKNOWN;
        }
        if (!isSort(sort) || n > MOST_PLACES) {
            return OUTSIDE;
        }
        if (n < 0) {
            return SIZE;
        }
        traces[trace].renew(sort, n);
        return n;
    }

    public int set(int trace, int sort, int i, int a, int b) {
        if (!isTrace(trace)) {
            return UNKNOWN;
        }
        if (!isSort(sort) || !isQuotientPart(a) || !isQuotientPart(b)) {
            return OUTSIDE;
        }
        Trace row = traces[trace];
        int finding = row.finding(sort, i, i);
        if (finding != NONE) {
            return finding;
        }
        row.putQuotient(i, a, b);
        return row.thousandAt(i);
    }

    public int get(int trace, int sort, int i) {
        int refusal = traceRefusal(trace, sort, i, i);
        return refusal != NONE ? refusal : traces[trace].thousandAt(i);
    }

    public int rest(int trace, int sort, int i, int j) {
        int refusal = traceRefusal(trace, sort, i, j);
        if (refusal != NONE) {
            return refusal;
        }
        traces[trace].putRemainder(i, j);
        return traces[trace].thousandAt(i);
    }

    public int compare(int trace, int sort, int i, int j) {
        int refusal = traceRefusal(trace, sort, i, j);
        return refusal != NONE ? refusal : traces[trace].order(i, j);
    }

    public int sum(int trace, int what) {
        if (!isTrace(trace)) {
            return UNKNOWN;
        }
        if (!isWithin(what, 0, 1)) {
            return OUTSIDE;
        }
        Trace row = traces[trace];
        if (row.isMissing()) {
            return NULL;
        }
        return what == 0 ? row.thousandOfAll() : row.noNumberCount();
    }

    public int drop(int trace) {
        if (!isTrace(trace)) {
            return UNKNOWN;
        }
        Trace row = traces[trace];
        if (row.isMissing()) {
            return NULL;
        }
        int places = row.placeCount();
        row.lose();
        return places;
    }

    public int count(int what) {
        switch (what) {
            case 0:
                return now.registers;
            case 1:
                return now.paths;
            case 2:
                return now.setup;
            case 3:
                return now.hold;
            case 4:
                return now.step;
            case 5:
                return now.period;
            case 6:
                return placesOfAllTraces();
            case 7:
                return history.size();
            case 8:
                return text.letterCount();
            case 9:
                return now.tooSoonCount();
            default:
                return OUTSIDE;
        }
    }

    private static boolean isWithin(int number, int low, int high) {
        return number >= low && number <= high;
    }

    private boolean isPath(int path) {
        return isWithin(path, 0, now.paths - 1);
    }

    private static boolean isKeptPlace(int k) {
        return isWithin(k, 0, KEPT_NETS - 1);
    }

    private static boolean isTrace(int trace) {
        return isWithin(trace, 0, TRACES - 1);
    }

    private static boolean isSort(int sort) {
        return sort == FLOATS || sort == DOUBLES;
    }

    private static boolean isQuotientPart(int number) {
        return isWithin(number, -MOST_PART, MOST_PART);
    }

    /** Why a call on places i and j of a trace is refused, or NONE. */
    private int traceRefusal(int trace, int sort, int i, int j) {
        if (!isTrace(trace)) {
            return UNKNOWN;
        }
        return isSort(sort) ? traces[trace].finding(sort, i, j) : OUTSIDE;
    }

    private int placesOfAllTraces() {
        int places = 0;
        for (int trace = 0; trace < TRACES; trace++) {
            places += traces[trace].placeCount();
        }
        return places;
    }

    /** No least period counts as more than any. */
    private static int orAboveAll(int period) {
        return period == NONE ? MOST_PERIOD + 1 : period;
    }

    /** The words that begin a clause, with the bounds of the number behind them (a path has its own). */
    private enum Word {
        NET("net", 2, MOST_REGISTERS),
        PATH("path", 0, 0),
        SETUP("setup", 0, 9),
        HOLD("hold", 0, 9),
        STEP("step", 1, 9),
        PERIOD("period", 0, MOST_PERIOD);

        private final String spelling;
        private final int low;
        private final int high;

        Word(String spelling, int low, int high) {
            this.spelling = spelling;
            this.low = low;
            this.high = high;
        }
    }

    private static final Word[] WORDS = Word.values();

    /** Registers, paths and what holds for them all. */
    private static final class Net {
        private int registers;
        private int setup;
        private int hold;
        private int step;
        private int period;
        private int paths;
        private final int[] from = new int[MOST_PATHS];
        private final int[] to = new int[MOST_PATHS];
        private final int[] longs = new int[MOST_PATHS];
        private final int[] shorts = new int[MOST_PATHS];

        Net() {
            begin(2);
        }

        private void begin(int registerCount) {
            registers = registerCount;
            setup = 0;
            hold = 0;
            step = 1;
            period = 99;
            paths = 0;
        }

        void copyFrom(Net other) {
            registers = other.registers;
            setup = other.setup;
            hold = other.hold;
            step = other.step;
            period = other.period;
            paths = other.paths;
            System.arraycopy(other.from, 0, from, 0, MOST_PATHS);
            System.arraycopy(other.to, 0, to, 0, MOST_PATHS);
            System.arraycopy(other.longs, 0, longs, 0, MOST_PATHS);
            System.arraycopy(other.shorts, 0, shorts, 0, MOST_PATHS);
        }

        void tell(Word word, int number) {
            switch (word) {
                case NET:
                    begin(number);
                    break;
                case SETUP:
                    setup = number;
                    break;
                case HOLD:
                    hold = number;
                    break;
                case STEP:
                    step = number;
                    break;
                case PERIOD:
                    period = number;
                    break;
                default:
                    break;
            }
        }

        boolean hasAllPaths() {
            return paths >= MOST_PATHS;
        }

        void addPath(int fromRegister, int toRegister, int longest, int shortest) {
            if (hasAllPaths()) {
                return;
            }
            from[paths] = fromRegister;
            to[paths] = toRegister;
            longs[paths] = longest;
            shorts[paths] = shortest;
            paths++;
        }

        boolean canBeSlower(int path, int n) {
            return longs[path] + n <= MOST_DELAY;
        }

        void delay(int path, int n) {
            longs[path] += n;
            shorts[path] += n;
        }

        int lateBound(int path) {
            return period - longs[path] - setup;
        }

        int soonBound(int path) {
            return shorts[path] - hold;
        }

        int tooSoonCount() {
            int tooSoon = 0;
            for (int path = 0; path < paths; path++) {
                if (soonBound(path) < 0) {
                    tooSoon++;
                }
            }
            return tooSoon;
        }
    }

    /** The text, and its reading, token by token. */
    private static final class Text {
        private final char[] letters = new char[MOST_LETTERS];
        private int length;
        private int clauses;
        private int tokenStart;
        private int tokenEnd;

        int letterCount() {
            return length;
        }

        /** How many clauses the latest reading found. */
        int clauseCount() {
            return clauses;
        }

        void clear() {
            length = 0;
        }

        boolean append(char letter) {
            if (length >= MOST_LETTERS) {
                return false;
            }
            letters[length] = letter;
            length++;
            return true;
        }

        /**
         * Does the clauses, up to the first fault, on a copy, as a fault leaves the net itself alone:
         * the fault's place, or NONE.
         */
        int read(Net before, Net copy) {
            copy.copyFrom(before);
            clauses = 0;
            tokenEnd = 0;
            advance();
            for (int clause = 1; clause <= MOST_CLAUSES; clause++) {
                if (!readClause(copy)) {
                    return tokenStart;
                }
                clauses = clause;
                if (isAtEnd()) {
                    return NONE;
                }
                // behind the last clause that may be, nothing can stand between it and a next one
                if (letters[tokenStart] != ';' || clause == MOST_CLAUSES) {
                    return tokenStart;
                }
                advance();
            }
            return tokenStart;
        }

        private boolean isAtEnd() {
            return tokenStart >= length;
        }

        private void advance() {
            tokenStart = tokenEnd;
            while (tokenStart < length && letters[tokenStart] == ' ') {
                tokenStart++;
            }
            tokenEnd = tokenStart;
            if (isAtEnd()) {
                return;
            }
            char first = letters[tokenStart];
            tokenEnd++;
            if (!isSmall(first) && !isDigit(first)) {
                return;
            }
            while (tokenEnd < length && isSmall(letters[tokenEnd]) == isSmall(first)
                    && isDigit(letters[tokenEnd]) == isDigit(first)) {
                tokenEnd++;
            }
        }

        private static boolean isSmall(char letter) {
            return letter >= 'a' && letter <= 'z';
        }

        private static boolean isDigit(char letter) {
            return letter >= '0' && letter <= '9';
        }

        /** A clause that fails leaves its faulty token as the present one. */
        private boolean readClause(Net net) {
            int place = wordHere();
            if (place == NONE) {
                return false;
            }
            Word word = WORDS[place];
            if (word == Word.PATH) {
                return !net.hasAllPaths() && readPath(net);
            }
            advance();
            int number = readNumber(word.low, word.high);
            if (number == NONE) {
                return false;
            }
            net.tell(word, number);
            return true;
        }

        private boolean readPath(Net net) {
            advance();
            int fromRegister = readNumber(0, net.registers - 1);
            if (fromRegister == NONE) {
                return false;
            }
            int toRegister = readNumber(0, net.registers - 1);
            if (toRegister == NONE) {
                return false;
            }
            int longest = readNumber(0, MOST_TOLD_DELAY);
            if (longest == NONE) {
                return false;
            }
            int shortest = readNumber(0, longest);
            if (shortest == NONE) {
                return false;
            }
            net.addPath(fromRegister, toRegister, longest, shortest);
            return true;
        }

        private int wordHere() {
            for (int word = 0; word < WORDS.length; word++) {
                if (isSpelled(WORDS[word].spelling)) {
                    return word;
                }
            }
            return NONE;
        }

        private boolean isSpelled(String spelling) {
            if (tokenEnd - tokenStart != spelling.length()) {
                return false;
            }
            for (int i = 0; i < spelling.length(); i++) {
                if (letters[tokenStart + i] != spelling.charAt(i)) {
                    return false;
                }
            }
            return true;
        }

        /** The number of the present token, which is left behind then; NONE if it cannot stand here. */
        private int readNumber(int low, int high) {
            if (isAtEnd() || !isDigit(letters[tokenStart]) || tokenEnd - tokenStart > MOST_DIGITS) {
                return NONE;
            }
            int number = 0;
            for (int i = tokenStart; i < tokenEnd; i++) {
                number = number * 10 + (letters[i] - '0');
            }
            if (!isWithin(number, low, high)) {
                return NONE;
            }
            advance();
            return number;
        }
    }

    /** What can be undone; a ring, as only the latest stay. */
    private static final class History {
        private final int[] paths = new int[MOST_UNDONE];
        private final int[] amounts = new int[MOST_UNDONE];
        private int next;
        private int size;

        int size() {
            return size;
        }

        void clear() {
            size = 0;
        }

        /** A path and by how much it became slower, or NONE and the period that was. */
        void push(int path, int amount) {
            paths[next] = path;
            amounts[next] = amount;
            next = (next + 1) % MOST_UNDONE;
            size = Math.min(size + 1, MOST_UNDONE);
        }

        void revertLatest(Net net) {
            if (size == 0) {
                return;
            }
            size--;
            next = (next + MOST_UNDONE - 1) % MOST_UNDONE;
            if (paths[next] == NONE) {
                net.period = amounts[next];
            } else {
                net.delay(paths[next], -amounts[next]);
            }
        }
    }

    /** Shifts found, or shown not to be, from the bounds between each two registers. */
    private static final class Planner {
        private static final int NO_BOUND = 1000000000;
        /** More halvings than an int has bits are never needed. */
        private static final int MOST_HALVINGS = 32;

        private final int[][] bounds = new int[MOST_REGISTERS][MOST_REGISTERS];
        private final int[] shifts = new int[MOST_REGISTERS];
        private final int[] ring = new int[MOST_REGISTERS];
        private int registers;
        private int ringLength;
        private int rateAbove;
        private int rateBelow;

        /** In steps. */
        int shiftOf(int register) {
            return shifts[register];
        }

        int ringLength() {
            return ringLength;
        }

        int ringRegister(int k) {
            return ring[k];
        }

        int rateAbove() {
            return rateAbove;
        }

        int rateBelow() {
            return rateBelow;
        }

        boolean settlesNow(Net net) {
            return settlesWithMargin(net, 0);
        }

        private boolean settlesWithMargin(Net net, int margin) {
            layBounds(net, net.period, 1, margin, net.step);
            return settle();
        }

        private boolean settlesAtPeriod(Net net, int above, int below, int step) {
            layBounds(net, above, below, 0, step);
            return settle();
        }

        int leastPeriod(Net net) {
            return leastPeriodAbove(net, 1, net.step);
        }

        /** The least whole number that, divided by below, is a period that will do; NONE. */
        private int leastPeriodAbove(Net net, int below, int step) {
            int low = 0;
            int high = MOST_PERIOD * below;
            if (!settlesAtPeriod(net, high, below, step)) {
                return NONE;
            }
            for (int turn = 0; turn < MOST_HALVINGS && low < high; turn++) {
                int middle = (low + high) / 2;
                if (settlesAtPeriod(net, middle, below, step)) {
                    high = middle;
                } else {
                    low = middle + 1;
                }
            }
            return low;
        }

        /**
         * The least period is what some ring asks for, a whole number divided by the count of its
         * late bounds, so it is met by one of the divisors 1 .. registers. The first divisor that
         * meets it is the least one: the fraction is in lowest terms. No ring asks for as much as
         * the greatest period (271 at most), so what fails there fails by its soon bounds alone.
         */
        boolean findRate(Net net) {
            rateAbove = leastPeriodAbove(net, 1, 1);
            rateBelow = 1;
            if (rateAbove == NONE) {
                return false;
            }
            for (int below = 2; below <= net.registers; below++) {
                int above = leastPeriodAbove(net, below, 1);
                if (above * rateBelow < rateAbove * below) {
                    rateAbove = above;
                    rateBelow = below;
                }
            }
            return true;
        }

        /** With the least margin all bounds are above 0, so that one always does. */
        int greatestMargin(Net net) {
            int low = -MOST_MARGIN;
            int high = MOST_MARGIN;
            for (int turn = 0; turn < MOST_HALVINGS && low < high; turn++) {
                int middle = Math.floorDiv(low + high + 1, 2);
                if (settlesWithMargin(net, middle)) {
                    low = middle;
                } else {
                    high = middle - 1;
                }
            }
            return low;
        }

        /** The period is above divided by below: all is told below times as large, and then in steps. */
        private void layBounds(Net net, int above, int below, int margin, int step) {
            registers = net.registers;
            for (int a = 0; a < registers; a++) {
                for (int b = 0; b < registers; b++) {
                    bounds[a][b] = NO_BOUND;
                }
            }
            for (int path = 0; path < net.paths; path++) {
                int a = net.from[path];
                int b = net.to[path];
                int late = above - below * (net.longs[path] + net.setup + margin);
                int soon = below * (net.soonBound(path) - margin);
                tighten(a, b, late, step);
                tighten(b, a, soon, step);
            }
        }

        private void tighten(int a, int b, int bound, int step) {
            if (step > 0) {
                bounds[a][b] = Math.min(bounds[a][b], Math.floorDiv(bound, step));
            }
        }

        /**
         * Lowers the shifts from 0 as far as the bounds ask. Without a ring below 0 they are at
         * rest before as many rounds as there are registers are over; what moves still, never rests.
         */
        private boolean settle() {
            for (int register = 0; register < registers; register++) {
                shifts[register] = 0;
            }
            for (int round = 0; round < registers; round++) {
                if (!lowerOnce()) {
                    return true;
                }
            }
            return false;
        }

        private boolean lowerOnce() {
            boolean lowered = false;
            for (int a = 0; a < registers; a++) {
                for (int b = 0; b < registers; b++) {
                    int bound = bounds[a][b];
                    if (bound != NO_BOUND && shifts[b] + bound < shifts[a]) {
                        shifts[a] = shifts[b] + bound;
                        lowered = true;
                    }
                }
            }
            return lowered;
        }

        /** The first ring, by numbers, whose bounds together are below 0. */
        boolean findRing() {
            ringLength = 0;
            for (int first = 0; first < registers; first++) {
                ring[0] = first;
                if (closesFrom(1, 0)) {
                    return true;
                }
            }
            return false;
        }

        /** Whether the registers that stand, with or without some more, are such a ring. */
        private boolean closesFrom(int length, int together) {
            int first = ring[0];
            int last = ring[length - 1];
            int closing = bounds[last][first];
            if (closing != NO_BOUND && together + closing < 0) {
                ringLength = length;
                return true;
            }
            if (length >= registers) {
                return false;
            }
            for (int next = first + 1; next < registers; next++) {
                int bound = bounds[last][next];
                if (bound == NO_BOUND || isInRing(next, length)) {
                    continue;
                }
                ring[length] = next;
                if (closesFrom(length + 1, together + bound)) {
                    return true;
                }
            }
            return false;
        }

        private boolean isInRing(int register, int length) {
            for (int k = 0; k < length; k++) {
                if (ring[k] == register) {
                    return true;
                }
            }
            return false;
        }
    }

    /**
     * A row of floats or of doubles. Floats are held as the doubles they equal; what is no number
     * is a mark beside its place, so that no sum here ever has to answer it.
     */
    private static final class Trace {
        private static final int MOST_THOUSAND = 1000000;
        private static final int NO_THOUSAND = 2000000;
        /** Far above all that is finite here: eight places of 9999 each. */
        private static final int FINITE_BELOW = 1000000;
        /** More than lie between the least and the greatest double. */
        private static final int MOST_DOUBLINGS = 2100;

        private final double[] values = new double[MOST_PLACES];
        private final boolean[] isNoNumber = new boolean[MOST_PLACES];
        private boolean isPresent;
        private int sort;
        private int places;

        boolean isMissing() {
            return !isPresent;
        }

        int placeCount() {
            return places;
        }

        void lose() {
            isPresent = false;
            places = 0;
        }

        void renew(int newSort, int placeCount) {
            isPresent = true;
            sort = newSort;
            places = placeCount;
            for (int place = 0; place < MOST_PLACES; place++) {
                putNumber(place, 0);
            }
        }

        /** What the machine would find of places i and j, or NONE. */
        int finding(int askedSort, int i, int j) {
            if (!isPresent) {
                return NULL;
            }
            if (askedSort != sort) {
                return CAST;
            }
            return isWithin(i, 0, places - 1) && isWithin(j, 0, places - 1) ? NONE : INDEX;
        }

        private void putNumber(int place, double value) {
            values[place] = value;
            isNoNumber[place] = false;
        }

        private void putNoNumber(int place) {
            values[place] = 0;
            isNoNumber[place] = true;
        }

        /** Divided by 0, all but 0 itself is endless, which the machine answers without a throw. */
        void putQuotient(int place, int a, int b) {
            if (a == 0 && b == 0) {
                putNoNumber(place);
            } else if (sort == FLOATS) {
                putNumber(place, (float) a / (float) b);
            } else {
                putNumber(place, (double) a / (double) b);
            }
        }

        void putRemainder(int i, int j) {
            if (isNoNumber[i] || isNoNumber[j] || isEndless(values[i]) || values[j] == 0) {
                putNoNumber(i);
            } else {
                putNumber(i, remainder(values[i], values[j]));
            }
        }

        /**
         * Takes away the divisor's doublings, the greatest first. Each is more than half of what
         * is left when it is taken, so nothing is ever rounded; of floats a float is left.
         */
        private static double remainder(double dividend, double divisor) {
            double left = dividend < 0 ? -dividend : dividend;
            double part = divisor < 0 ? -divisor : divisor;
            int doublings = 0;
            while (doublings < MOST_DOUBLINGS && part <= left / 2) {
                part = part * 2;
                doublings++;
            }
            for (int turn = doublings; turn >= 0; turn--) {
                if (left >= part) {
                    left = left - part;
                }
                part = part / 2;
            }
            return dividend < 0 ? -left : left;
        }

        private static boolean isEndless(double value) {
            return value > FINITE_BELOW || value < -FINITE_BELOW;
        }

        int order(int i, int j) {
            if (isNoNumber[i] || isNoNumber[j]) {
                return 0;
            }
            if (values[i] < values[j]) {
                return 2;
            }
            return values[i] == values[j] ? 1 : 0;
        }

        int thousandAt(int place) {
            if (isNoNumber[place]) {
                return NO_THOUSAND;
            }
            if (sort == FLOATS) {
                return cutThousand((float) values[place] * 1000.0f);
            }
            return cutThousand(values[place] * 1000.0);
        }

        int thousandOfAll() {
            double together = 0;
            for (int place = 0; place < places; place++) {
                double value = values[place];
                boolean areOpposed = isEndless(together) && isEndless(value) && together != value;
                if (isNoNumber[place] || areOpposed) {
                    return NO_THOUSAND;
                }
                together = together + value;
            }
            return cutThousand(together * 1000.0);
        }

        private static int cutThousand(double thousandfold) {
            if (thousandfold >= MOST_THOUSAND) {
                return NO_THOUSAND + MOST_THOUSAND;
            }
            if (thousandfold <= -MOST_THOUSAND) {
                return NO_THOUSAND - MOST_THOUSAND;
            }
            return NO_THOUSAND + (int) thousandfold;
        }

        int noNumberCount() {
            int noNumbers = 0;
            for (int place = 0; place < places; place++) {
                if (isNoNumber[place]) {
                    noNumbers++;
                }
            }
            return noNumbers;
        }
    }
}
