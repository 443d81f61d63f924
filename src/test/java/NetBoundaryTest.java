/** The boundary cases of what is told and done of a net, sentence by sentence: promises 6 to 11, and 27. */
public final class NetBoundaryTest {
    private static final int UNKNOWN = SkewPlan.UNKNOWN, OUTSIDE = SkewPlan.OUTSIDE, NOT = SkewPlan.NOT;
    private static final int LOWEST = Integer.MIN_VALUE, HIGHEST = Integer.MAX_VALUE;

    private static final Due due = new Due();

    public static void main(String[] args) {
        delays();
        path();
        pathBounds();
        period();
        periodIs();
        slower();
        slowerAbove();
        undo();
        undoLastEight();
        undoComesRound();
        undoNone();
        keep();
        back();
        backNothingKept();
        count();
        countAtMost();
        countTooSoon();
        allCalls();
        due.end();
    }

    /** A path 0 1 that has LONG 199 and this SHORT (100 at least), told and made slower. */
    private static SkewPlan longest(int shortest) {
        SkewPlan x = Due.of("path 0 1 99 " + (shortest - 100) + ";setup 9;hold 9");
        for (int i = 0; i < 5; i++) {
            x.slower(0, 20);
        }
        return x;
    }

    private static void delays() {
        due.words("Terms", "LONG and SHORT (0 to 199; SHORT no more than LONG)");
        SkewPlan none = Due.of("path 0 1 0 0");
        due.is("LONG 0", none.path(0, 2), 0);
        due.is("SHORT 0", none.path(0, 3), 0);
        due.is("LONG 199", longest(199).path(0, 2), 199);
        due.is("SHORT 199", longest(199).path(0, 3), 199);
        due.is("SHORT 100", longest(100).path(0, 3), 100);
        due.is("SHORT above LONG", Due.faultOf("path 0 1 3 4"), 11);
    }

    private static void path() {
        due.words("Promise 6", "Of a PATH: FROM (what 0), TO (1), LONG (2), SHORT (3)");
        SkewPlan x = Due.of("net 8;path 7 0 99 0;path 0 7 0 0");
        int[] wanted = {7, 0, 99, 0};
        int[] second = {0, 7, 0, 0};
        for (int what = 0; what <= 3; what++) {
            due.is("path(0, " + what + ")", x.path(0, what), wanted[what]);
            due.is("path(1, " + what + ")", x.path(1, what), second[what]);
        }
        due.words("Promise 6", "UNKNOWN");
        for (int path : new int[] {-1, 2, 16, LOWEST, HIGHEST}) {
            due.is("path(" + path + ", 0)", x.path(path, 0), UNKNOWN);
            due.is("path(" + path + ", 6)", x.path(path, 6), UNKNOWN);
        }
        due.is("there is none", new SkewPlan().path(0, 0), UNKNOWN);
        SkewPlan most = Due.of(Due.EIGHT_PATHS, Due.EIGHT_PATHS);
        due.is("path(15, 0)", most.path(15, 0), 0);
        due.is("path(16, 0)", most.path(16, 0), UNKNOWN);
        due.words("Promise 6", "OUTSIDE");
        for (int what : new int[] {-1, 6, LOWEST, HIGHEST}) {
            due.is("path(0, " + what + ")", x.path(0, what), OUTSIDE);
        }
    }

    private static void pathBounds() {
        due.words("Promise 6", "and 2000 more: its LATE bound at PERIOD (4)");
        SkewPlan x = longest(100);
        due.is("99 less 199 less 9", x.path(0, 4), 1891);
        x.period(0);
        due.is("0 less 199 less 9", x.path(0, 4), 1792);
        x.period(208);
        due.is("just 0", x.path(0, 4), 2000);
        x.period(999);
        due.is("999 less 199 less 9", x.path(0, 4), 2791);
        due.is("the greatest", Due.of("path 0 1 0 0;period 999").path(0, 4), 2999);
        due.words("Promise 6", "and 2000 more: its SOON bound (5)");
        due.is("100 less 9", x.path(0, 5), 2091);
        due.is("0 less 9, the least", Due.of("path 0 1 0 0;hold 9").path(0, 5), 1991);
        due.is("9 less 9", Due.of("path 0 1 9 9;hold 9").path(0, 5), 2000);
        due.is("199 less 9", longest(199).path(0, 5), 2190);
    }

    private static void period() {
        due.words("Promise 7", "PERIOD is t (0 .. 999): which it was. OUTSIDE");
        SkewPlan x = new SkewPlan();
        due.is("period(0)", x.period(0), 99);
        due.is("count(5)", x.count(5), 0);
        due.is("period(999)", x.period(999), 0);
        due.is("count(5)", x.count(5), 999);
        for (int t : new int[] {-1, 1000, LOWEST, HIGHEST}) {
            due.is("period(" + t + ")", x.period(t), OUTSIDE);
        }
        due.is("count(5) still", x.count(5), 999);
        due.is("count(7): two can be undone", x.count(7), 2);
        due.is("period(1)", x.period(1), 999);
        due.is("period(998)", x.period(998), 1);
    }

    private static void periodIs() {
        due.words("Promise 7", "NOT: it is");
        SkewPlan x = new SkewPlan();
        due.is("period(99) at first", x.period(99), NOT);
        x.period(0);
        due.is("period(0)", x.period(0), NOT);
        x.period(999);
        due.is("period(999)", x.period(999), NOT);
        due.is("count(7)", x.count(7), 2);
        x.undo();
        due.is("period(0) again", x.period(0), NOT);
        due.is("period(999) again", x.period(999), 0);
    }

    private static void slower() {
        due.words("Terms", "SLOWER: LONG and SHORT of a PATH are more");
        SkewPlan x = Due.of("path 0 1 50 0;path 0 1 50 0");
        due.is("slower(0, 1)", x.slower(0, 1), 51);
        due.is("LONG", x.path(0, 2), 51);
        due.is("SHORT", x.path(0, 3), 1);
        due.is("LONG of the other", x.path(1, 2), 50);
        due.is("SHORT of the other", x.path(1, 3), 0);
        due.words("Promise 8", "SLOWER by n (1 .. 20): LONG then. OUTSIDE");
        due.is("slower(1, 20)", x.slower(1, 20), 70);
        for (int n : new int[] {0, -1, 21, LOWEST, HIGHEST}) {
            due.is("slower(1, " + n + ")", x.slower(1, n), OUTSIDE);
        }
        due.is("LONG still", x.path(1, 2), 70);
        due.is("count(7)", x.count(7), 2);
        due.words("Promise 8", "UNKNOWN");
        for (int path : new int[] {-1, 2, 16, LOWEST, HIGHEST}) {
            due.is("slower(" + path + ", 1)", x.slower(path, 1), UNKNOWN);
            due.is("slower(" + path + ", 0)", x.slower(path, 0), UNKNOWN);
        }
        SkewPlan most = Due.of(Due.EIGHT_PATHS, Due.EIGHT_PATHS);
        due.is("the sixteenth", most.slower(15, 1), 10);
        due.is("a seventeenth", most.slower(16, 1), UNKNOWN);
    }

    private static void slowerAbove() {
        due.words("Promise 8", "NOT: LONG would be above 199");
        SkewPlan x = longest(199);
        due.is("from 199 by 1", x.slower(0, 1), NOT);
        due.is("from 199 by 20", x.slower(0, 20), NOT);
        due.is("LONG", x.path(0, 2), 199);
        due.is("SHORT", x.path(0, 3), 199);
        due.is("OUTSIDE ahead of NOT", x.slower(0, 21), OUTSIDE);
        x.undo();
        due.is("from 179 by 20, to 199", x.slower(0, 20), 199);
        x.undo();
        due.is("from 179 by 19", x.slower(0, 19), 198);
        due.is("from 198 by 2", x.slower(0, 2), NOT);
        due.is("from 198 by 1", x.slower(0, 1), 199);
    }

    private static void undo() {
        due.words("Promise 9", "The latest period(), slower() is undone: how many can be undone yet");
        SkewPlan x = Due.of("path 0 1 50 5;path 0 1 60 6");
        x.slower(1, 20);
        x.period(0);
        x.slower(0, 1);
        due.is("the third", x.undo(), 2);
        due.is("LONG 0", x.path(0, 2), 50);
        due.is("SHORT 0", x.path(0, 3), 5);
        due.is("PERIOD still", x.count(5), 0);
        due.is("the second", x.undo(), 1);
        due.is("PERIOD", x.count(5), 99);
        due.is("LONG 1 still", x.path(1, 2), 80);
        due.is("the first", x.undo(), 0);
        due.is("LONG 1", x.path(1, 2), 60);
        due.is("SHORT 1", x.path(1, 3), 6);
        due.is("count(7)", x.count(7), 0);
        // what is undone can not be undone in its turn, nor can what was refused
        x.period(1);
        x.period(1);
        x.slower(0, 21);
        x.slower(2, 1);
        due.is("of one done and three refused", x.undo(), 0);
        due.is("PERIOD again", x.count(5), 99);
    }

    private static void undoLastEight() {
        due.words("Promise 9", "(the last 8 can be)");
        SkewPlan x = Due.of("path 0 1 9 9");
        for (int t = 1; t <= 8; t++) {
            x.period(t);
            due.is("count(7) behind " + t, x.count(7), t);
        }
        x.slower(0, 1);
        due.is("count(7) behind nine", x.count(7), 8);
        x.period(9);
        due.is("count(7) behind ten", x.count(7), 8);
        due.is("the tenth", x.undo(), 7);
        due.is("PERIOD", x.count(5), 8);
        due.is("the ninth", x.undo(), 6);
        due.is("LONG", x.path(0, 2), 9);
        for (int left = 5; left >= 0; left--) {
            due.is("undo to " + left, x.undo(), left);
            due.is("PERIOD at " + left, x.count(5), left + 2);
        }
        due.is("the second can not be", x.undo(), NOT);
        due.is("PERIOD stays", x.count(5), 2);
    }

    private static void undoComesRound() {
        due.words("Promise 9", "(the last 8 can be), many times over");
        SkewPlan x = Due.of("path 0 1 0 0");
        // ten done, two undone, over and over: the places of what can be undone come round
        int longest = 0;
        for (int turn = 0; turn < 12; turn++) {
            for (int i = 0; i < 5; i++) {
                x.slower(0, i + 1);
                x.period(100 + turn * 10 + i);
            }
            due.is("count(7) in turn " + turn, x.count(7), 8);
            due.is("PERIOD undone", x.undo(), 7);
            due.is("SLOWER undone", x.undo(), 6);
            due.is("PERIOD", x.count(5), 103 + turn * 10);
            longest += 10;
            due.is("LONG", x.path(0, 2), longest);
        }
        for (int left = 5; left >= 0; left--) {
            due.is("undo to " + left, x.undo(), left);
        }
        due.is("PERIOD at last", x.count(5), 210);
        due.is("LONG at last", x.path(0, 2), longest - 9);
        due.is("no more", x.undo(), NOT);
    }

    private static void undoNone() {
        due.words("Promise 9", "NOT: none");
        SkewPlan x = new SkewPlan();
        due.is("at first", x.undo(), NOT);
        x.period(0);
        due.is("one", x.undo(), 0);
        due.is("none then", x.undo(), NOT);
        due.is("PERIOD", x.count(5), 99);
        due.is("count(7)", x.count(7), 0);
    }

    private static void keep() {
        due.words("Promise 10", "PERIOD and PATHS as they are now are kept (k 0, 1): PERIOD");
        SkewPlan x = Due.of("path 0 1 50 5");
        x.period(0);
        due.is("keep(0)", x.keep(0), 0);
        x.period(999);
        x.slower(0, 20);
        due.is("keep(1)", x.keep(1), 999);
        due.is("what can be undone stays", x.count(7), 3);
        due.is("it can be", x.undo(), 2);
        x.period(5);
        due.is("back(0)", x.back(0), 0);
        due.is("LONG", x.path(0, 2), 50);
        due.is("SHORT", x.path(0, 3), 5);
        due.is("back(1)", x.back(1), 999);
        due.is("LONG", x.path(0, 2), 70);
        due.is("SHORT", x.path(0, 3), 25);
        x.period(7);
        due.is("keep(1) anew", x.keep(1), 7);
        x.period(8);
        due.is("back(1) to the new one", x.back(1), 7);
        due.is("back(0) to the old one", x.back(0), 0);
        due.words("Promise 10", "UNKNOWN: no such k");
        for (int k : new int[] {-1, 2, LOWEST, HIGHEST}) {
            due.is("keep(" + k + ")", x.keep(k), UNKNOWN);
        }
    }

    private static void back() {
        due.words("Promise 11", "It is as it was kept, nothing can be undone: PERIOD");
        SkewPlan x = Due.of("path 0 1 50 5");
        x.period(60);
        x.keep(0);
        x.slower(0, 1);
        x.period(61);
        due.is("back(0)", x.back(0), 60);
        due.is("PERIOD", x.count(5), 60);
        due.is("LONG", x.path(0, 2), 50);
        due.is("SHORT", x.path(0, 3), 5);
        due.is("count(7)", x.count(7), 0);
        due.is("undo()", x.undo(), NOT);
        // what is done behind it leaves what is kept as it was
        x.slower(0, 20);
        due.is("back(0) again", x.back(0), 60);
        due.is("LONG again", x.path(0, 2), 50);
        x.period(62);
        due.is("what is done then can be undone", x.undo(), 0);
        due.is("to what was kept", x.count(5), 60);
        due.words("Promise 11", "UNKNOWN");
        for (int k : new int[] {-1, 2, LOWEST, HIGHEST}) {
            due.is("back(" + k + ")", x.back(k), UNKNOWN);
        }
    }

    private static void backNothingKept() {
        due.words("Promise 11", "NOT: nothing was kept since the last text");
        SkewPlan x = new SkewPlan();
        due.is("back(0) at first", x.back(0), NOT);
        due.is("back(1) at first", x.back(1), NOT);
        x.keep(1);
        due.is("back(0), 1 being kept", x.back(0), NOT);
        due.is("back(1)", x.back(1), 99);
        x.keep(0);
        Due.write(x, "skew 1");
        due.is("a text that is refused", x.net(), NOT);
        due.is("back(0) behind it", x.back(0), 99);
        due.is("back(1) behind it", x.back(1), 99);
        x.period(1);
        due.is("a text", Due.tell(x, "hold 1"), 1);
        x.period(2);
        due.is("back(0) behind the text", x.back(0), NOT);
        due.is("back(1) behind the text", x.back(1), NOT);
        due.is("what can be undone stays", x.count(7), 1);
        due.is("kept behind the text", x.keep(0), 2);
        due.is("back(0) then", x.back(0), 2);
        due.is("back(1) then", x.back(1), NOT);
    }

    private static void count() {
        due.words("Promise 27", "0 REGISTERS .. 9 PATHS that .. do not hold their SOON bound. OUTSIDE");
        SkewPlan x = new SkewPlan();
        int[] first = {2, 0, 0, 0, 1, 99, 0, 0, 0, 0};
        for (int what = 0; what <= 9; what++) {
            due.is("count(" + what + ") at first", x.count(what), first[what]);
        }
        for (int what : new int[] {-1, 10, LOWEST, HIGHEST}) {
            due.is("count(" + what + ")", x.count(what), OUTSIDE);
        }
    }

    private static void countAtMost() {
        due.words("Promise 27", "0 REGISTERS .. 9 PATHS, each as many as can be");
        String paths = "path 0 1 0 0;".repeat(8);
        SkewPlan x = Due.of("net 8;" + paths + "setup 9;hold 9;step 9;period 999", paths + "step 9");
        for (int trace = 0; trace <= 2; trace++) {
            x.trace(trace, trace % 2, 8);
        }
        for (int i = 0; i < 5; i++) {
            x.period(998);
            x.period(999);
        }
        for (int i = 0; i < 201; i++) {
            x.write('a');
        }
        int[] most = {8, 16, 9, 9, 9, 999, 24, 8, 200, 16};
        for (int what = 0; what <= 9; what++) {
            due.is("count(" + what + ")", x.count(what), most[what]);
        }
        due.words("Promise 27", "6 places of all TRACES");
        x.trace(1, 0, 0);
        due.is("one has none", x.count(6), 16);
        x.drop(2);
        due.is("one is missing", x.count(6), 8);
        x.trace(0, 1, 3);
        due.is("one is a new one", x.count(6), 3);
        x.trace(0, 1, -1);
        due.is("one is refused", x.count(6), 3);
        x.drop(0);
        due.is("none", x.count(6), 0);
    }

    private static void countTooSoon() {
        due.words("Promise 27", "9 PATHS that, all SHIFTS being 0, do not hold their SOON bound");
        due.is("SHORT 0, HOLD 0", Due.of("path 0 1 9 0").count(9), 0);
        due.is("SHORT 4, HOLD 4", Due.of("path 0 1 9 4;hold 4").count(9), 0);
        due.is("SHORT 3, HOLD 4", Due.of("path 0 1 9 3;hold 4").count(9), 1);
        due.is("SHORT 3, HOLD 4, from a register to itself", Due.of("path 0 0 9 3;hold 4").count(9), 1);
        // neither its STEP nor its PERIOD, nor its LONG, has to do with it
        due.is("in steps", Due.of("path 0 1 9 5;hold 4;step 9;period 0;setup 9").count(9), 0);
        SkewPlan x = Due.of("path 0 1 9 0;path 0 1 9 1;path 0 1 9 2;hold 2");
        due.is("two of three", x.count(9), 2);
        x.slower(1, 1);
        due.is("one made slower", x.count(9), 1);
        x.undo();
        due.is("that undone", x.count(9), 2);
    }

    private static void allCalls() {
        due.words("What it is", "An object is used for at most 512 calls");
        SkewPlan x = new SkewPlan();
        for (int call = 1; call <= 509; call++) {
            due.is("call " + call, x.period(call), call == 1 ? 99 : call - 1);
        }
        due.is("call 510", x.undo(), 7);
        due.is("call 511", x.count(5), 508);
        due.is("call 512", x.write('a'), 1);
    }
}
