/** The boundary cases of traces, sentence by sentence: their terms, and promises 20 to 26. */
public final class TraceBoundaryTest {
    private static final int UNKNOWN = SkewPlan.UNKNOWN, OUTSIDE = SkewPlan.OUTSIDE, NULL = SkewPlan.NULL, SIZE = SkewPlan.SIZE,
            CAST = SkewPlan.CAST, INDEX = SkewPlan.INDEX;
    private static final int LOWEST = Integer.MIN_VALUE, HIGHEST = Integer.MAX_VALUE;
    private static final int FLOATS = 0, DOUBLES = 1;
    private static final int[] NO_TRACES = {-1, 3, LOWEST, HIGHEST};
    private static final int[] NO_SORTS = {-1, 2, LOWEST, HIGHEST};
    private static final int[] NO_PLACES = {-1, 3, 7, 8, LOWEST, HIGHEST};

    private static final Due due = new Due();

    public static void main(String[] args) {
        missingAtFirst();
        noughtsAtFirst();
        thousandCut();
        thousandBounds();
        thousandOfAFloat();
        trace();
        traceRefused();
        set();
        setBounds();
        get();
        rest();
        restOfNoNumbers();
        compare();
        sum();
        sumOfNoNumbers();
        sumRefused();
        drop();
        unknownTraces();
        outsideSorts();
        missing();
        otherSort();
        noSuchPlace();
        firstInThisOrder();
        due.end();
    }

    private static SkewPlan traceOf(int sort, int n) {
        SkewPlan x = new SkewPlan();
        x.trace(1, sort, n);
        return x;
    }

    /** Trace 1 of a new object, its places set to quotients: 1, 2 is a half. */
    private static SkewPlan places(int sort, int... parts) {
        SkewPlan x = traceOf(sort, parts.length / 2);
        for (int i = 0; i < parts.length / 2; i++) {
            x.set(1, sort, i, parts[2 * i], parts[2 * i + 1]);
        }
        return x;
    }

    private static void quotient(int sort, int a, int b, int wanted) {
        SkewPlan x = traceOf(sort, 1);
        due.is("set of " + a + " by " + b + ", sort " + sort, x.set(1, sort, 0, a, b), wanted);
        due.is("get of " + a + " by " + b + ", sort " + sort, x.get(1, sort, 0), wanted);
    }

    private static void quotientOfBoth(int a, int b, int wanted) {
        quotient(FLOATS, a, b, wanted);
        quotient(DOUBLES, a, b, wanted);
    }

    private static void missingAtFirst() {
        due.words("Terms", "TRACES 0 .. 2 are missing (at first)");
        SkewPlan x = new SkewPlan();
        for (int trace = 0; trace <= 2; trace++) {
            due.is("get(" + trace + ", 0, 0)", x.get(trace, FLOATS, 0), NULL);
            due.is("get(" + trace + ", 1, 0)", x.get(trace, DOUBLES, 0), NULL);
        }
        due.is("count(6)", x.count(6), 0);
        due.words("Terms", "rows of 0 to 8 floats, or of doubles");
        for (int n = 0; n <= 8; n++) {
            for (int sort = FLOATS; sort <= DOUBLES; sort++) {
                due.is("trace(0, " + sort + ", " + n + ")", x.trace(0, sort, n), n);
                due.is("the last of " + n, x.get(0, sort, n - 1), n == 0 ? INDEX : 2000000);
                due.is("one behind the last of " + n, x.get(0, sort, n), INDEX);
            }
        }
    }

    private static void noughtsAtFirst() {
        due.words("Terms", "rows of 0 to 8 floats, or of doubles (0 at first)");
        for (int sort = FLOATS; sort <= DOUBLES; sort++) {
            SkewPlan x = traceOf(sort, 8);
            for (int i = 0; i < 8; i++) {
                due.is("place " + i, x.get(1, sort, i), 2000000);
                due.is("the same as nought, " + i, x.compare(1, sort, i, 0), 1);
            }
            due.is("all are numbers", x.sum(1, 1), 0);
        }
    }

    private static void thousandCut() {
        due.words("Terms", "THOUSAND: a thousand times it, cut to a whole number, and 2000000");
        quotientOfBoth(0, 1, 2000000);
        quotientOfBoth(0, -9999, 2000000);
        quotientOfBoth(1, 1000, 2000001);
        quotientOfBoth(-1, 1000, 1999999);
        quotientOfBoth(1, 2000, 2000000);
        quotientOfBoth(-1, 2000, 2000000);
        quotientOfBoth(1, 9999, 2000000);
        quotientOfBoth(-1, 9999, 2000000);
        quotientOfBoth(2, 3, 2000666);
        quotientOfBoth(-2, 3, 1999334);
        quotientOfBoth(-1, -2, 2000500);
    }

    private static void thousandBounds() {
        due.words("Terms", "THOUSAND: at least -1000000, at most 1000000");
        quotientOfBoth(999, 1, 2999000);
        quotientOfBoth(9999, 10, 2999900);
        quotientOfBoth(1000, 1, 3000000);
        quotientOfBoth(1001, 1, 3000000);
        quotientOfBoth(9999, 1, 3000000);
        quotientOfBoth(-999, 1, 1001000);
        quotientOfBoth(9999, -10, 1000100);
        quotientOfBoth(-1000, 1, 1000000);
        quotientOfBoth(-1001, 1, 1000000);
        quotientOfBoth(-9999, 1, 1000000);
        quotientOfBoth(1, 0, 3000000);
        quotientOfBoth(9999, 0, 3000000);
        quotientOfBoth(-1, 0, 1000000);
        due.words("Terms", "THOUSAND: (0 for what is no number)");
        quotientOfBoth(0, 0, 2000000);
    }

    private static void thousandOfAFloat() {
        due.words("Terms", "THOUSAND: (a float so multiplied as a float)");
        // the float next to 7 by 5 is a little less: only as a float a thousand times it is 1400
        quotient(FLOATS, 7, 5, 2001400);
        quotient(FLOATS, 9, 5, 2001800);
        quotient(FLOATS, -33, 5, 1993400);
        // as a float 163 by 5 comes to less, as a double it does not
        quotient(FLOATS, 163, 5, 2032599);
        quotient(DOUBLES, 163, 5, 2032600);
        for (int b = 1; b <= 9999; b += 101) {
            for (int a = -9999; a <= 9999; a += 1111) {
                quotient(FLOATS, a, b, 2000000 + within((int) ((float) a / (float) b * 1000f)));
                quotient(DOUBLES, a, b, 2000000 + within((int) ((double) a / (double) b * 1000.0)));
            }
        }
    }

    private static int within(int thousand) {
        return Math.max(-1000000, Math.min(1000000, thousand));
    }

    private static void trace() {
        due.words("Promise 20", "A TRACE is a new one of n noughts (8 at most), of floats (sort 0), of doubles (1): n");
        for (int sort = FLOATS; sort <= DOUBLES; sort++) {
            SkewPlan x = places(sort, 1, 2, 0, 0, 1, 0);
            due.is("anew, longer", x.trace(1, sort, 8), 8);
            for (int i = 0; i < 8; i++) {
                due.is("place " + i, x.get(1, sort, i), 2000000);
            }
            due.is("all are numbers", x.sum(1, 1), 0);
            x.set(1, sort, 7, 1, 2);
            due.is("anew, none", x.trace(1, sort, 0), 0);
            due.is("no places", x.get(1, sort, 0), INDEX);
            due.is("anew, of the other sort", x.trace(1, 1 - sort, 8), 8);
            due.is("as one of the first sort", x.get(1, sort, 7), CAST);
            due.is("as one of the other", x.get(1, 1 - sort, 7), 2000000);
        }
    }

    private static void traceRefused() {
        due.words("Promise 20", "OUTSIDE (sort; n above 8)");
        SkewPlan x = places(DOUBLES, 1, 2, 1, 4, 1, 8);
        for (int sort : NO_SORTS) {
            due.is("trace(1, " + sort + ", 1)", x.trace(1, sort, 1), OUTSIDE);
            due.is("OUTSIDE ahead of SIZE, " + sort, x.trace(1, sort, -1), OUTSIDE);
        }
        for (int n : new int[] {9, 10, 1000, HIGHEST}) {
            due.is("trace(1, 0, " + n + ")", x.trace(1, FLOATS, n), OUTSIDE);
            due.is("trace(0, 1, " + n + ")", x.trace(0, DOUBLES, n), OUTSIDE);
        }
        due.words("Promise 20", "SIZE (fewer than none)");
        for (int n : new int[] {-1, -2, -9, LOWEST}) {
            due.is("trace(1, 0, " + n + ")", x.trace(1, FLOATS, n), SIZE);
            due.is("trace(1, 1, " + n + ")", x.trace(1, DOUBLES, n), SIZE);
            due.is("trace(0, 0, " + n + ")", x.trace(0, FLOATS, n), SIZE);
        }
        due.words("Terms", "it changes nothing (the new trace that is refused)");
        due.is("its places", x.count(6), 3);
        due.is("its sort and its numbers", x.get(1, DOUBLES, 0), 2000500);
        due.is("the last one", x.get(1, DOUBLES, 2), 2000125);
        due.is("the other is still missing", x.drop(0), NULL);
        due.words("Promise 20", "UNKNOWN");
        for (int trace : NO_TRACES) {
            due.is("trace(" + trace + ", 0, 1)", x.trace(trace, FLOATS, 1), UNKNOWN);
            due.is("UNKNOWN ahead of OUTSIDE, " + trace, x.trace(trace, 2, 9), UNKNOWN);
            due.is("UNKNOWN ahead of SIZE, " + trace, x.trace(trace, FLOATS, -1), UNKNOWN);
        }
    }

    private static void set() {
        due.words("Promise 21", "divided as floats, as doubles, is at place i: the THOUSAND of that");
        for (int sort = FLOATS; sort <= DOUBLES; sort++) {
            SkewPlan x = traceOf(sort, 8);
            due.is("the first place", x.set(1, sort, 0, 1, 2), 2000500);
            due.is("the last place", x.set(1, sort, 7, -3, 2), 1998500);
            due.is("get the first", x.get(1, sort, 0), 2000500);
            due.is("get the last", x.get(1, sort, 7), 1998500);
            due.is("get another", x.get(1, sort, 1), 2000000);
            due.is("endless", x.set(1, sort, 1, 5, 0), 3000000);
            due.is("endless below", x.set(1, sort, 2, -5, 0), 1000000);
            due.is("endless is no less than all else", x.compare(1, sort, 1, 0), 0);
            due.is("endless below is less", x.compare(1, sort, 2, 7), 2);
            due.is("no number", x.set(1, sort, 0, 0, 0), 2000000);
            due.is("one is none", x.sum(1, 1), 1);
            due.is("a number again", x.set(1, sort, 0, 0, 1), 2000000);
            due.is("all are numbers", x.sum(1, 1), 0);
        }
    }

    private static void setBounds() {
        due.words("Promise 21", "a by b (each -9999 .. 9999). OUTSIDE");
        SkewPlan x = places(DOUBLES, 1, 2, 1, 4, 1, 8);
        due.is("9999 by 9999", x.set(1, DOUBLES, 0, 9999, 9999), 2001000);
        due.is("-9999 by 9999", x.set(1, DOUBLES, 0, -9999, 9999), 1999000);
        due.is("9999 by -9999", x.set(1, DOUBLES, 0, 9999, -9999), 1999000);
        due.is("-9999 by -9999", x.set(1, DOUBLES, 0, -9999, -9999), 2001000);
        for (int part : new int[] {-10000, 10000, LOWEST, HIGHEST}) {
            due.is("a " + part, x.set(1, DOUBLES, 0, part, 1), OUTSIDE);
            due.is("b " + part, x.set(1, DOUBLES, 0, 1, part), OUTSIDE);
            due.is("both " + part, x.set(1, DOUBLES, 0, part, part), OUTSIDE);
            due.is("ahead of NULL, a " + part, x.set(0, DOUBLES, 0, part, 1), OUTSIDE);
            due.is("ahead of CAST, b " + part, x.set(1, FLOATS, 0, 1, part), OUTSIDE);
            due.is("ahead of INDEX, b " + part, x.set(1, DOUBLES, 3, 1, part), OUTSIDE);
            due.is("behind UNKNOWN, a " + part, x.set(3, DOUBLES, 0, part, 1), UNKNOWN);
        }
        due.is("nothing changed", x.get(1, DOUBLES, 0), 2001000);
    }

    private static void get() {
        due.words("Promise 22", "The THOUSAND of place i, taken as one of a sort");
        for (int sort = FLOATS; sort <= DOUBLES; sort++) {
            SkewPlan x = places(sort, 1, 2, 1, 4, 1, 8);
            due.is("the first", x.get(1, sort, 0), 2000500);
            due.is("the last", x.get(1, sort, 2), 2000125);
            due.is("of the other sort", x.get(1, 1 - sort, 0), CAST);
        }
    }

    private static void rest(int sort, int a, int b, int c, int d, int wanted) {
        String call = a + " by " + b + " left over by " + c + " by " + d + ", sort " + sort;
        SkewPlan x = places(sort, a, b, c, d);
        int other = x.get(1, sort, 1);
        int noNumbers = x.sum(1, 1);
        due.is("rest of " + call, x.rest(1, sort, 0, 1), wanted);
        due.is("at place i, " + call, x.get(1, sort, 0), wanted);
        due.is("place j stays, " + call, x.get(1, sort, 1), other);
        due.is("both are numbers still, " + call, x.sum(1, 1), noNumbers);
    }

    private static void rest() {
        due.words("Promise 23", "What place i leaves over by place j (as the machine's remainder does)");
        for (int sort = FLOATS; sort <= DOUBLES; sort++) {
            rest(sort, 7, 1, 2, 1, 2001000);
            rest(sort, -7, 1, 2, 1, 1999000);
            rest(sort, 7, 1, -2, 1, 2001000);
            rest(sort, -7, 1, -2, 1, 1999000);
            rest(sort, -3, 4, 1, 2, 1999750);
            rest(sort, 3, 4, -1, 2, 2000250);
            rest(sort, -3, 4, -1, 2, 1999750);
            rest(sort, 6, 1, 2, 1, 2000000);
            rest(sort, 2, 1, 2, 1, 2000000);
            rest(sort, 1, 1, 2, 1, 2001000);
            rest(sort, 3, 1, 2, 1, 2001000);
            rest(sort, 4, 1, 2, 1, 2000000);
            rest(sort, 0, 1, 2, 1, 2000000);
            // by what is endless all stays as it is
            rest(sort, 7, 2, 1, 0, 2003500);
            rest(sort, -7, 2, -1, 0, 1996500);
            rest(sort, 0, 1, 1, 0, 2000000);
            rest(sort, 9999, 1, 1, 9999, 2000000 + (sort == FLOATS ? (int) (9999f % (1f / 9999f) * 1000f) : (int) (9999.0 % (1.0 / 9999.0) * 1000.0)));
        }
        // neither a tenth as a float nor as a double goes into 1, or into 3 tenths, without something over
        rest(FLOATS, 1, 1, 1, 10, 2000099);
        rest(DOUBLES, 1, 1, 1, 10, 2000099);
        rest(FLOATS, 3, 10, 1, 10, 2000000);
        rest(DOUBLES, 3, 10, 1, 10, 2000099);
        due.words("Promise 23", "What place i leaves over by place j (i and j the same)");
        for (int sort = FLOATS; sort <= DOUBLES; sort++) {
            SkewPlan x = places(sort, 1, 3, 0, 1, 1, 0);
            due.is("nothing", x.rest(1, sort, 0, 0), 2000000);
            due.is("which is a number", x.sum(1, 1), 0);
            due.is("of nought", x.rest(1, sort, 1, 1), 2000000);
            due.is("no number", x.sum(1, 1), 1);
            due.is("of what is endless", x.rest(1, sort, 2, 2), 2000000);
            due.is("no number either", x.sum(1, 1), 2);
        }
    }

    private static void restOfNoNumbers() {
        due.words("Promise 23", "as the machine's remainder does: what is no number");
        for (int sort = FLOATS; sort <= DOUBLES; sort++) {
            int[][] pairs = {{7, 1, 0, 1}, {0, 1, 0, 1}, {7, 1, 0, -1}, {1, 0, 2, 1}, {-1, 0, 2, 1}, {1, 0, 1, 0}, {1, 0, 0, 1}};
            for (int[] pair : pairs) {
                SkewPlan x = places(sort, pair);
                String call = pair[0] + " by " + pair[1] + " left over by " + pair[2] + " by " + pair[3] + ", sort " + sort;
                due.is(call, x.rest(1, sort, 0, 1), 2000000);
                due.is("is no number: " + call, x.sum(1, 1), 1);
                due.is("nor the same as itself: " + call, x.compare(1, sort, 0, 0), 0);
            }
            SkewPlan x = places(sort, 7, 1, 0, 0, 1, 0);
            due.is("by no number", x.rest(1, sort, 0, 1), 2000000);
            due.is("is none", x.sum(1, 1), 2);
            due.is("no number by what is endless", x.rest(1, sort, 0, 2), 2000000);
            due.is("is none either", x.sum(1, 1), 2);
            due.is("what is endless by no number", x.rest(1, sort, 2, 1), 2000000);
            due.is("nor is that", x.sum(1, 1), 3);
        }
    }

    private static void compare() {
        due.words("Promise 24", "Whether place i is less than place j (2), the same (1), neither (0)");
        for (int sort = FLOATS; sort <= DOUBLES; sort++) {
            SkewPlan x = places(sort, 1, 3, 2, 6, 1, 2, -1, 3, 1, 0, -1, 0, 0, 1, 0, -1);
            int[][] wanted = {
                {1, 1, 2, 0, 2, 0, 0, 0},
                {1, 1, 2, 0, 2, 0, 0, 0},
                {0, 0, 1, 0, 2, 0, 0, 0},
                {2, 2, 2, 1, 2, 0, 2, 2},
                {0, 0, 0, 0, 1, 0, 0, 0},
                {2, 2, 2, 2, 2, 1, 2, 2},
                {2, 2, 2, 0, 2, 0, 1, 1},
                {2, 2, 2, 0, 2, 0, 1, 1},
            };
            for (int i = 0; i < 8; i++) {
                for (int j = 0; j < 8; j++) {
                    due.is("compare(1, " + sort + ", " + i + ", " + j + ")", x.compare(1, sort, i, j), wanted[i][j]);
                }
            }
        }
        // what differs only behind the thousandth is not the same
        SkewPlan near = places(DOUBLES, 3333, 9999, 3332, 9997, 1, 3);
        due.is("nearly the same", near.compare(1, DOUBLES, 1, 0), 2);
        due.is("the same", near.compare(1, DOUBLES, 2, 0), 1);
        due.words("Promise 24", "(what is no number is neither to any)");
        for (int sort = FLOATS; sort <= DOUBLES; sort++) {
            SkewPlan x = places(sort, 0, 0, 0, 1, 1, 2, -1, 2, 1, 0, -1, 0, 0, 0);
            for (int other = 0; other <= 6; other++) {
                due.is("no number to " + other, x.compare(1, sort, 0, other), 0);
                due.is(other + " to no number", x.compare(1, sort, other, 0), 0);
            }
        }
    }

    private static void sum() {
        due.words("Promise 25", "All places of a TRACE together, from 0 on");
        for (int sort = FLOATS; sort <= DOUBLES; sort++) {
            due.is("no places", traceOf(sort, 0).sum(1, 0), 2000000);
            due.is("one", places(sort, 1, 2).sum(1, 0), 2000500);
            due.is("eight", places(sort, 1, 2, 1, 2, 1, 2, 1, 2, 1, 2, 1, 2, 1, 2, -1, 4).sum(1, 0), 2003250);
            due.is("below 0", places(sort, 1, 2, -1, 1).sum(1, 0), 1999500);
            due.is("just at most", places(sort, 500, 1, 500, 1).sum(1, 0), 3000000);
            due.is("above", places(sort, 500, 1, 501, 1).sum(1, 0), 3000000);
            due.is("far above", places(sort, 9999, 1, 9999, 1, 9999, 1, 9999, 1, 9999, 1, 9999, 1, 9999, 1, 9999, 1).sum(1, 0), 3000000);
            due.is("just at least", places(sort, -500, 1, -500, 1).sum(1, 0), 1000000);
            due.is("below", places(sort, -500, 1, -501, 1).sum(1, 0), 1000000);
            // what was too much for a THOUSAND by itself is still there in what is together
            due.is("up and down", places(sort, 9999, 1, -9998, 1).sum(1, 0), 2001000);
        }
        due.words("Promise 25", "the first one first");
        due.is("one, two, seven tenths", places(DOUBLES, 1, 10, 2, 10, 7, 10).sum(1, 0), 2001000);
        due.is("seven, two, one tenths", places(DOUBLES, 7, 10, 2, 10, 1, 10).sum(1, 0), 2000999);
        due.words("Promise 25", "each made a double");
        due.is("one and nine tenths as floats", places(FLOATS, 1, 10, 9, 10).sum(1, 0), 2000999);
        due.is("one and nine tenths as doubles", places(DOUBLES, 1, 10, 9, 10).sum(1, 0), 2001000);
        due.is("seven fifths as a float", places(FLOATS, 7, 5).sum(1, 0), 2001399);
    }

    private static void sumOfNoNumbers() {
        due.words("Promise 25", "how many are no numbers (what 1)");
        for (int sort = FLOATS; sort <= DOUBLES; sort++) {
            due.is("of no places", traceOf(sort, 0).sum(1, 1), 0);
            due.is("none", places(sort, 1, 2, 0, 1, 1, 0, -1, 0).sum(1, 1), 0);
            due.is("the first", places(sort, 0, 0, 1, 1).sum(1, 1), 1);
            due.is("the last", places(sort, 1, 1, 0, 0).sum(1, 1), 1);
            due.is("all eight", places(sort, 0, 0, 0, 0, 0, 0, 0, 0, 0, 0, 0, 0, 0, 0, 0, 0).sum(1, 1), 8);
        }
        due.words("Promise 25", "the THOUSAND of that, (0 for what is no number)");
        for (int sort = FLOATS; sort <= DOUBLES; sort++) {
            due.is("with no number first", places(sort, 0, 0, 1, 1).sum(1, 0), 2000000);
            due.is("with no number last", places(sort, 1, 1, 0, 0).sum(1, 0), 2000000);
            due.is("endless", places(sort, 1, 1, 1, 0, -9999, 1).sum(1, 0), 3000000);
            due.is("endless twice", places(sort, 1, 0, 2, 0).sum(1, 0), 3000000);
            due.is("endless below", places(sort, 1, 1, -1, 0, 9999, 1).sum(1, 0), 1000000);
            due.is("endless below twice", places(sort, -1, 0, -2, 0).sum(1, 0), 1000000);
            due.is("endless either way", places(sort, 1, 0, 1, 1, -1, 0, 1, 1).sum(1, 0), 2000000);
            due.is("endless either way, both being numbers", places(sort, -1, 0, 1, 0).sum(1, 1), 0);
        }
    }

    private static void sumRefused() {
        due.words("Promise 25", "OUTSIDE: what");
        SkewPlan x = traceOf(FLOATS, 1);
        for (int what : new int[] {-1, 2, LOWEST, HIGHEST}) {
            due.is("sum(1, " + what + ")", x.sum(1, what), OUTSIDE);
            due.is("OUTSIDE ahead of NULL, " + what, x.sum(0, what), OUTSIDE);
            due.is("UNKNOWN ahead of OUTSIDE, " + what, x.sum(3, what), UNKNOWN);
        }
    }

    private static void drop() {
        due.words("Promise 26", "A TRACE is missing from now on: how many places it had");
        for (int sort = FLOATS; sort <= DOUBLES; sort++) {
            for (int n : new int[] {0, 1, 8}) {
                SkewPlan x = traceOf(sort, n);
                x.trace(0, sort, 2);
                due.is("drop of " + n, x.drop(1), n);
                due.is("again", x.drop(1), NULL);
                due.is("get", x.get(1, sort, 0), NULL);
                due.is("sum", x.sum(1, 0), NULL);
                due.is("count(6)", x.count(6), 2);
                due.is("the other is there", x.get(0, sort, 1), 2000000);
                due.is("a new one", x.trace(1, sort, 3), 3);
                due.is("of noughts", x.get(1, sort, 2), 2000000);
            }
        }
        SkewPlan x = places(FLOATS, 1, 2);
        x.drop(1);
        x.trace(1, FLOATS, 1);
        due.is("what was dropped is gone", x.get(1, FLOATS, 0), 2000000);
    }

    private static void unknownTraces() {
        SkewPlan x = traceOf(FLOATS, 3);
        x.trace(0, FLOATS, 3);
        x.trace(2, FLOATS, 3);
        due.words("Promises 21 to 26", "UNKNOWN (no such TRACE)");
        for (int trace : NO_TRACES) {
            due.is("set " + trace, x.set(trace, 2, 9, 10000, 0), UNKNOWN);
            due.is("get " + trace, x.get(trace, 2, 9), UNKNOWN);
            due.is("rest " + trace, x.rest(trace, 2, 9, 9), UNKNOWN);
            due.is("compare " + trace, x.compare(trace, 2, 9, 9), UNKNOWN);
            due.is("sum " + trace, x.sum(trace, 2), UNKNOWN);
            due.is("drop " + trace, x.drop(trace), UNKNOWN);
        }
        for (int trace = 0; trace <= 2; trace++) {
            due.is("drop " + trace, x.drop(trace), 3);
        }
    }

    private static void outsideSorts() {
        SkewPlan x = traceOf(FLOATS, 3);
        due.words("Promises 21 to 24", "OUTSIDE (a sort that is neither 0 nor 1)");
        for (int sort : NO_SORTS) {
            for (int trace = 0; trace <= 1; trace++) {
                due.is("set " + trace + ", " + sort, x.set(trace, sort, 9, 1, 1), OUTSIDE);
                due.is("get " + trace + ", " + sort, x.get(trace, sort, 9), OUTSIDE);
                due.is("rest " + trace + ", " + sort, x.rest(trace, sort, 9, 9), OUTSIDE);
                due.is("compare " + trace + ", " + sort, x.compare(trace, sort, 9, 9), OUTSIDE);
            }
        }
    }

    private static void missing() {
        SkewPlan x = traceOf(FLOATS, 3);
        due.words("Promises 21 to 26", "NULL -11 (the TRACE is missing)");
        for (int i : new int[] {0, -1, 9}) {
            for (int sort = FLOATS; sort <= DOUBLES; sort++) {
                due.is("set at " + i, x.set(0, sort, i, 1, 1), NULL);
                due.is("get at " + i, x.get(0, sort, i), NULL);
                due.is("rest at " + i, x.rest(0, sort, i, i), NULL);
                due.is("compare at " + i, x.compare(2, sort, i, i), NULL);
            }
        }
        due.is("sum", x.sum(0, 0), NULL);
        due.is("how many are no numbers", x.sum(2, 1), NULL);
        due.is("drop", x.drop(2), NULL);
        due.is("still missing", x.count(6), 3);
        due.is("the constant", NULL, -11);
    }

    private static void otherSort() {
        due.words("Promises 21 to 24", "CAST -13 (it is of the other sort)");
        for (int sort = FLOATS; sort <= DOUBLES; sort++) {
            SkewPlan x = places(sort, 1, 2, 1, 4, 1, 8);
            for (int i : new int[] {0, 2, 3, -1}) {
                due.is("set at " + i, x.set(1, 1 - sort, i, 3, 1), CAST);
                due.is("get at " + i, x.get(1, 1 - sort, i), CAST);
                due.is("rest at " + i, x.rest(1, 1 - sort, i, 0), CAST);
                due.is("compare at " + i, x.compare(1, 1 - sort, i, 0), CAST);
            }
            due.is("nothing changed", x.get(1, sort, 0), 2000500);
            due.is("nothing together changed", x.sum(1, 0), 2000875);
            x.trace(0, sort, 0);
            due.is("of no places", x.get(0, 1 - sort, 0), CAST);
        }
        due.is("the constant", CAST, -13);
    }

    private static void noSuchPlace() {
        due.words("Promises 21 to 24", "INDEX -14 (there is no such place)");
        for (int sort = FLOATS; sort <= DOUBLES; sort++) {
            SkewPlan x = places(sort, 1, 2, 1, 4, 1, 8);
            for (int place : NO_PLACES) {
                due.is("set at " + place, x.set(1, sort, place, 3, 1), INDEX);
                due.is("get at " + place, x.get(1, sort, place), INDEX);
                due.is("rest, i " + place, x.rest(1, sort, place, 0), INDEX);
                due.is("rest, j " + place, x.rest(1, sort, 0, place), INDEX);
                due.is("rest, both " + place, x.rest(1, sort, place, place), INDEX);
                due.is("compare, i " + place, x.compare(1, sort, place, 0), INDEX);
                due.is("compare, j " + place, x.compare(1, sort, 0, place), INDEX);
            }
            due.is("nothing changed", x.sum(1, 0), 2000875);
            due.is("the first still", x.get(1, sort, 0), 2000500);
            x.trace(0, sort, 0);
            due.is("of no places", x.get(0, sort, 0), INDEX);
            due.is("set, of no places", x.set(0, sort, 0, 1, 1), INDEX);
            x.trace(0, sort, 8);
            due.is("the eighth", x.set(0, sort, 7, 1, 1), 2001000);
            due.is("a ninth", x.set(0, sort, 8, 1, 1), INDEX);
            // a shorter one does not reach what a longer one had
            x.trace(0, sort, 2);
            due.is("the eighth of two", x.get(0, sort, 7), INDEX);
        }
        due.is("the constant", INDEX, -14);
    }

    private static void firstInThisOrder() {
        due.words("Terms", "of several the first in this order");
        SkewPlan x = traceOf(FLOATS, 3);
        due.is("NULL and INDEX", x.get(0, FLOATS, 9), NULL);
        due.is("CAST and INDEX", x.get(1, DOUBLES, 9), CAST);
        due.is("CAST and INDEX, set", x.set(1, DOUBLES, -1, 1, 1), CAST);
        due.is("CAST and INDEX, rest", x.rest(1, DOUBLES, 0, 9), CAST);
        due.is("CAST and INDEX, compare", x.compare(1, DOUBLES, 9, 0), CAST);
        due.is("the constant SIZE", SIZE, -12);
        due.is("the constant UNKNOWN", UNKNOWN, -2);
        due.is("the constant OUTSIDE", OUTSIDE, -3);
    }
}
