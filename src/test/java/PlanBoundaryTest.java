/** The boundary cases of what is foretold, sentence by sentence: its terms, and promises 12 to 19. */
public final class PlanBoundaryTest {
    private static final int NONE = SkewPlan.NONE, UNKNOWN = SkewPlan.UNKNOWN, OUTSIDE = SkewPlan.OUTSIDE, NOT = SkewPlan.NOT;
    private static final int LOWEST = Integer.MIN_VALUE, HIGHEST = Integer.MAX_VALUE;

    /** By two SOON bounds of -1 together it is never feasible. */
    private static final String NEVER = "path 0 1 9 3;path 1 0 9 3;hold 4";

    private static final Due due = new Due();

    public static void main(String[] args) {
        multiplesOfStep();
        lateBound();
        soonBound();
        allPaths();
        theShifts();
        feasible();
        shift();
        least();
        leastNone();
        rate();
        rateParts();
        margin();
        spare();
        spareRefused();
        cycleBounds();
        cycleFirst();
        cyclePlaces();
        buffer();
        bufferOutside();
        due.end();
    }

    /** The one path of a net is made slower by 100. */
    private static SkewPlan slowest(SkewPlan x, int path) {
        for (int i = 0; i < 5; i++) {
            x.slower(path, 20);
        }
        return x;
    }

    private static void shifts(String text, int... wanted) {
        SkewPlan x = Due.of(text);
        for (int register = 0; register < wanted.length; register++) {
            due.is("shift(" + register + ") of " + text, x.shift(register), wanted[register]);
        }
    }

    private static void multiplesOfStep() {
        due.words("Terms", "SHIFTS are whole multiples of STEP (below 0, too), one for each REGISTER");
        // register 0 has to be 3 below register 1
        shifts("path 0 1 13 9;period 10", 3, 0);
        shifts("path 0 1 13 9;period 10;step 2", 4, 0);
        shifts("path 0 1 13 9;period 10;step 3", 3, 0);
        shifts("path 0 1 13 9;period 10;step 4", 4, 0);
        shifts("path 0 1 13 9;period 10;step 9", 9, 0);
        // just one step, and one more than that
        shifts("path 0 1 19 19;period 10;step 9", 9, 0);
        shifts("path 0 1 20 20;period 10;step 9", 18, 0);
        // between 1 and 8 below there is no multiple of 9
        due.is("none between", Due.of("path 0 1 11 8;period 10;step 9").feasible(), 0);
        due.is("one between", Due.of("path 0 1 11 8;period 10;step 8").feasible(), 1);
    }

    private static void lateBound() {
        due.words("Terms", "the SHIFT of a less that of b is no more than PERIOD less LONG, less SETUP");
        due.is("just met", Due.of("path 0 0 50 50;setup 9;period 59").feasible(), 1);
        due.is("by 1 not", Due.of("path 0 0 50 50;setup 9;period 58").feasible(), 0);
        due.is("just met at 0", Due.of("path 0 0 0 0;period 0").feasible(), 1);
        due.is("LONG 1 at 0", Due.of("path 0 0 1 1;period 0").feasible(), 0);
        due.is("SETUP 1 at 0", Due.of("path 0 0 0 0;setup 1;period 0").feasible(), 0);
        shifts("path 0 1 50 50;setup 9;period 59", 0, 0);
        shifts("path 0 1 50 50;setup 9;period 58", 1, 0);
        shifts("path 1 0 50 50;setup 9;period 58", 0, 1);
    }

    private static void soonBound() {
        due.words("Terms", "the SHIFT of b less that of a no more than SHORT less HOLD");
        due.is("just met", Due.of("path 0 0 9 9;hold 9").feasible(), 1);
        due.is("by 1 not", Due.of("path 0 0 9 8;hold 9").feasible(), 0);
        due.is("SHORT 0, HOLD 0", Due.of("path 0 0 9 0").feasible(), 1);
        shifts("path 0 1 9 9;hold 9", 0, 0);
        shifts("path 0 1 9 8;hold 9", 0, 1);
        shifts("path 1 0 9 8;hold 9", 1, 0);
    }

    private static void allPaths() {
        due.words("Terms", "if there are SHIFTS by which both hold for all PATHS");
        String seven = "path 0 1 9 9;".repeat(7);
        SkewPlan x = Due.of(Due.EIGHT_PATHS, seven + "path 1 1 9 9");
        x.period(9);
        due.is("all sixteen hold", x.feasible(), 1);
        x.period(8);
        due.is("the last one's LATE bound does not", x.feasible(), 0);
        SkewPlan y = Due.of(Due.EIGHT_PATHS, seven + "path 1 1 9 8;hold 8");
        due.is("all sixteen hold", y.feasible(), 1);
        due.is("a text more", Due.tell(y, "hold 9"), 1);
        due.is("the last one's SOON bound does not", y.feasible(), 0);
        SkewPlan z = Due.of("path 1 1 9 8;" + seven + "hold 9");
        due.is("the first one's SOON bound does not", z.feasible(), 0);
    }

    private static void theShifts() {
        due.words("Terms", "THE SHIFTS: of all such none above 0, each as great as can be");
        shifts("net 8", 0, 0, 0, 0, 0, 0, 0, 0);
        shifts("path 0 1 50 50;period 20", 30, 0);
        shifts("path 1 0 50 50;period 20", 0, 30);
        // two pairs that have nothing to do with one another: each has its own at 0
        shifts("net 4;path 0 1 50 50;path 3 2 60 60;period 20", 30, 0, 0, 40);
        // the lesser of two bounds, and a register between that need not be as low as it could be
        shifts("net 3;path 0 1 50 50;path 0 2 70 70;period 20", 50, 0, 0);
        shifts("net 3;path 0 1 50 50;path 1 2 20 20;period 20", 30, 0, 0);
        SkewPlan x = Due.of("net 8;path 0 1 99 99;path 1 2 99 99;path 2 3 99 99;path 3 4 99 99;path 4 5 99 99;path 5 6 99 99;path 6 7 99 99;period 0");
        for (int path = 0; path < 7; path++) {
            slowest(x, path);
        }
        for (int register = 0; register < 8; register++) {
            due.is("the farthest below, register " + register, x.shift(register), 199 * (7 - register));
        }
    }

    private static void feasible() {
        due.words("Promise 12", "1 it is FEASIBLE, 0");
        due.is("no paths", new SkewPlan().feasible(), 1);
        SkewPlan x = Due.of("path 0 1 30 30;path 1 0 10 10");
        x.period(20);
        due.is("just", x.feasible(), 1);
        x.period(19);
        due.is("no longer", x.feasible(), 0);
        x.undo();
        due.is("undone", x.feasible(), 1);
        x.slower(0, 1);
        due.is("slower", x.feasible(), 0);
        SkewPlan never = Due.of(NEVER);
        never.period(999);
        due.is("by no PERIOD", never.feasible(), 0);
    }

    private static void shift() {
        due.words("Promise 13", "How much below 0 the one of THE SHIFTS of a REGISTER is");
        shifts("net 3;path 0 1 50 50;period 20", 30, 0, 0);
        due.words("Promise 13", "UNKNOWN");
        SkewPlan x = Due.of("net 3;path 0 1 50 50;path 1 0 50 50;period 50");
        due.is("the last one", x.shift(2), 0);
        for (int register : new int[] {-1, 3, 8, LOWEST, HIGHEST}) {
            due.is("shift(" + register + ")", x.shift(register), UNKNOWN);
        }
        due.is("shift(7) of 8", Due.of("net 8").shift(7), 0);
        due.is("shift(8) of 8", Due.of("net 8").shift(8), UNKNOWN);
        due.words("Promise 13", "NOT: it is not FEASIBLE");
        x.period(49);
        for (int register = 0; register < 3; register++) {
            due.is("shift(" + register + ")", x.shift(register), NOT);
        }
        due.is("UNKNOWN ahead of NOT", x.shift(3), UNKNOWN);
        due.is("UNKNOWN ahead of NOT, below", x.shift(-1), UNKNOWN);
        x.undo();
        due.is("feasible again", x.shift(0), 0);
    }

    /** Seven registers, each 9 below the next, and a path of 199: there is no greater least period. */
    private static SkewPlan slowestOfAll() {
        return slowest(Due.of("net 8;path 0 1 99 99;path 2 1 0 0;path 3 2 0 0;path 4 3 0 0;path 5 4 0 0;path 6 5 0 0;path 7 6 0 0;path 0 7 0 0;setup 9;hold 9"), 0);
    }

    private static void least() {
        due.words("Promise 14", "LEAST: the least PERIOD (0 .. 999) by which it is FEASIBLE");
        due.is("no paths", new SkewPlan().least(), 0);
        due.is("0 is enough", Due.of("path 0 0 0 0").least(), 0);
        due.is("1 is needed", Due.of("path 0 0 1 1").least(), 1);
        due.is("1 is needed by SETUP", Due.of("path 0 0 0 0;setup 1").least(), 1);
        due.is("with shifts 0 is enough", Due.of("path 0 1 99 99").least(), 0);
        due.is("30 and 10", Due.of("path 0 1 30 30;path 1 0 10 10").least(), 20);
        due.is("31 and 10", Due.of("path 0 1 31 31;path 1 0 10 10").least(), 21);
        // in steps of 9 the shifts are 9 apart, or none: 22 less 31 is -9, 22 less 10 is 9 and more
        due.is("31 and 10, in steps of 9", Due.of("path 0 1 31 31;path 1 0 10 10;step 9").least(), 22);
        due.is("208 by itself", slowest(Due.of("path 0 0 99 99;setup 9"), 0).least(), 208);
        due.is("the greatest of all", slowestOfAll().least(), 271);
        SkewPlan x = slowestOfAll();
        x.period(0);
        due.is("by any PERIOD", x.least(), 271);
        x.period(271);
        due.is("feasible then", x.feasible(), 1);
        x.period(270);
        due.is("not before", x.feasible(), 0);
    }

    private static void leastNone() {
        due.words("Promise 14", "NONE");
        due.is("SOON bounds of -1 and -1", Due.of(NEVER).least(), NONE);
        // 0 is just 1 above 1 then, and 1 more is needed for it
        due.is("SOON bounds of -1 and 1", Due.of("path 0 1 9 3;path 1 0 9 5;hold 4").least(), 10);
        due.is("SOON bounds of -1 and 1, in steps of 2", Due.of("path 0 1 9 3;path 1 0 9 5;hold 4;step 2").least(), NONE);
        due.is("one of 0 by itself", Due.of("path 0 0 9 4;hold 4").least(), 9);
        due.is("one of -1 by itself", Due.of("path 0 0 9 3;hold 4").least(), NONE);
        // LATE bounds alone never make it none
        due.is("the greatest", slowestOfAll().least(), 271);
    }

    private static void rate(String text, int above, int below) {
        SkewPlan x = Due.of(text);
        due.is("rate(0) of " + text, x.rate(0), above);
        due.is("rate(1) of " + text, x.rate(1), below);
    }

    private static void rate() {
        due.words("Promise 15", "RATE: the least PERIOD, any number 0 or more");
        rate("net 2", 0, 1);
        rate("path 0 0 0 0", 0, 1);
        rate("path 0 1 99 99", 0, 1);
        rate("path 0 1 30 30;path 1 0 10 10", 20, 1);
        rate("path 0 1 31 31;path 1 0 10 10", 41, 2);
        SkewPlan most = slowestOfAll();
        due.is("the greatest, rate(0)", most.rate(0), 271);
        due.is("the greatest, rate(1)", most.rate(1), 1);
        due.words("Promise 15", "SHIFTS, any numbers (not in STEPS)");
        rate("path 0 1 31 31;path 1 0 10 10;step 9", 41, 2);
        rate("path 0 1 9 3;path 1 0 9 5;hold 4;step 2", 10, 1);
        due.words("Promise 15", "NONE");
        rate(NEVER, NONE, NONE);
        rate("path 0 0 9 3;hold 4", NONE, NONE);
        rate("path 0 0 9 4;hold 4", 9, 1);
        rate("path 0 1 9 3;path 1 0 9 5;hold 4", 10, 1);
    }

    private static void rateParts() {
        due.words("Terms", "Parts are told in lowest terms: above (part 0), below (1)");
        String ring = "net 8;path 0 1 9 9;path 1 2 9 9;path 2 3 9 9;path 3 4 9 9;path 4 5 9 9;path 5 6 9 9;path 6 7 9 9;path 7 0 ";
        rate(ring + "9 9", 9, 1);
        rate(ring + "1 1", 8, 1);
        rate(ring + "5 5", 17, 2);
        rate(ring + "7 7", 35, 4);
        rate(ring + "3 3", 33, 4);
        rate(ring + "8 8", 71, 8);
        rate(ring + "0 0", 63, 8);
        rate("net 8;path 0 1 0 0;path 1 2 0 0;path 2 3 0 0;path 3 4 0 0;path 4 5 0 0;path 5 6 0 0;path 6 7 0 0;path 7 0 1 1", 1, 8);
        rate("net 7;path 0 1 0 0;path 1 2 0 0;path 2 3 0 0;path 3 4 0 0;path 4 5 0 0;path 5 6 0 0;path 6 0 1 1", 1, 7);
        rate("net 6;path 0 1 0 0;path 1 2 0 0;path 2 3 0 0;path 3 4 0 0;path 4 5 0 0;path 5 0 3 3", 1, 2);
        rate("net 6;path 0 1 0 0;path 1 2 0 0;path 2 3 0 0;path 3 4 0 0;path 4 5 0 0;path 5 0 4 4", 2, 3);
        rate("net 5;path 0 1 0 0;path 1 2 0 0;path 2 3 0 0;path 3 4 0 0;path 4 0 7 7", 7, 5);
        // of two rings the one that asks for more: 5 by 3, not 3 by 2
        rate("net 5;path 0 1 0 0;path 1 2 0 0;path 2 0 5 5;path 3 4 0 0;path 4 3 3 3", 5, 3);
        rate("net 5;path 0 1 0 0;path 1 2 0 0;path 2 0 4 4;path 3 4 0 0;path 4 3 3 3", 3, 2);
        due.words("Promise 15", "OUTSIDE");
        SkewPlan x = new SkewPlan();
        SkewPlan never = Due.of(NEVER);
        for (int part : new int[] {-1, 2, LOWEST, HIGHEST}) {
            due.is("rate(" + part + ")", x.rate(part), OUTSIDE);
            due.is("rate(" + part + ") where there is none", never.rate(part), OUTSIDE);
        }
    }

    private static void margin(String text, int wanted) {
        due.is("margin() of " + text, Due.of(text).margin(), wanted);
    }

    private static void margin() {
        due.words("Promise 16", "MARGIN: the greatest m (-1200 .. 1200), and 2000");
        margin("net 2", 3200);
        margin("net 8;hold 9;setup 9;period 0", 3200);
        margin("path 0 0 0 0;period 0", 2000);
        margin("path 0 0 1 1;period 0", 1999);
        margin("path 0 0 9 1;period 20", 2001);
        margin("path 0 0 9 0;hold 9", 1991);
        due.is("the least of all", slowest(Due.of("path 0 0 99 0;setup 9;period 0"), 0).margin(), 1792);
        due.is("the greatest by itself", slowest(Due.of("path 0 0 99 99;period 999"), 0).margin(), 2199);
        // LATE 999 less LONG and SOON, as much as LONG, are 999 together, for two
        margin("path 0 1 50 50;period 999", 2499);
        margin("path 0 1 50 49;period 999", 2499);
        margin("path 0 1 50 48;period 999", 2498);
        // both in steps of 9: -5 and 5 are -9 and 0, 2 lower they are -9 and 0, 4 higher -9 and 9
        margin("path 0 1 15 5;period 10;step 9", 1996);
        due.words("Terms", "With a MARGIN m: .. less m (its LATE bound); .. less m (its SOON bound)");
        margin("path 0 0 9 9;period 15", 2006);
        margin("path 0 0 9 9;period 18", 2009);
        margin("path 0 0 9 9;period 19", 2009);
        // 0 1 by LATE, 1 2 by LATE, 2 0 by LATE: three times m
        margin("net 3;path 0 1 9 9;path 1 2 9 9;path 2 0 9 9;period 12", 2003);
        margin("net 3;path 0 1 9 9;path 1 2 9 9;path 2 0 8 8;period 12", 2003);
        margin("net 3;path 0 1 9 9;path 1 2 9 9;path 2 0 6 6;period 12", 2004);
        due.words("Terms", "a MARGIN (0, if none is told)");
        due.is("just with 0", Due.of("path 0 0 9 9;hold 9;period 9").margin(), 2000);
        due.is("feasible then", Due.of("path 0 0 9 9;hold 9;period 9").feasible(), 1);
        due.is("just not with 0", Due.of("path 0 0 9 8;hold 9;period 9").margin(), 1999);
        due.is("not feasible then", Due.of("path 0 0 9 8;hold 9;period 9").feasible(), 0);
        due.is("least() then", Due.of("path 0 0 9 9;hold 9").least(), 9);
        due.words("Promise 16", "by which it is FEASIBLE at PERIOD");
        SkewPlan x = Due.of("path 0 0 50 50;period 50");
        due.is("just feasible", x.margin(), 2000);
        x.period(49);
        due.is("just not", x.margin(), 1999);
        x.period(0);
        due.is("at 0", x.margin(), 1950);
        x.period(999);
        due.is("at 999", x.margin(), 2050);
    }

    private static void spare() {
        due.words("Promise 17", "SPARE: by the LATE bound (what 0), the SOON bound (1)");
        SkewPlan x = Due.of("path 0 1 30 25;path 1 0 10 10;period 20;setup 0");
        // the shift of 0 is 10 below that of 1: its LATE bound is just met, as the other's SOON bound is
        due.is("spare(0, 0)", x.spare(0, 0), 0);
        due.is("spare(0, 1)", x.spare(0, 1), 15);
        due.is("spare(1, 0)", x.spare(1, 0), 0);
        due.is("spare(1, 1)", x.spare(1, 1), 20);
        x.period(999);
        due.is("all at 0: LATE", x.spare(0, 0), 969);
        due.is("all at 0: SOON", x.spare(0, 1), 25);
        SkewPlan same = Due.of("path 1 1 50 9;hold 9;period 50");
        due.is("to itself: LATE just met", same.spare(0, 0), 0);
        due.is("to itself: SOON just met", same.spare(0, 1), 0);
        // 0 is 5 below 1, a whole step; the bounds themselves are not cut
        SkewPlan steps = Due.of("path 0 1 13 9;period 10;step 5");
        due.is("in steps of 5: LATE", steps.spare(0, 0), 2);
        due.is("in steps of 5: SOON", steps.spare(0, 1), 4);
        due.is("the greatest LATE", Due.of("path 0 1 0 0;period 999").spare(0, 0), 999);
        due.is("the greatest SOON", slowest(Due.of("path 0 1 99 99;period 999"), 0).spare(0, 1), 199);
    }

    private static void spareRefused() {
        due.words("Promise 17", "UNKNOWN");
        SkewPlan x = Due.of("path 0 1 30 30;path 1 0 10 10;period 20");
        for (int path : new int[] {-1, 2, 16, LOWEST, HIGHEST}) {
            due.is("spare(" + path + ", 0)", x.spare(path, 0), UNKNOWN);
            due.is("spare(" + path + ", 2)", x.spare(path, 2), UNKNOWN);
        }
        due.is("no paths", new SkewPlan().spare(0, 0), UNKNOWN);
        due.words("Promise 17", "OUTSIDE");
        for (int what : new int[] {-1, 2, LOWEST, HIGHEST}) {
            due.is("spare(0, " + what + ")", x.spare(0, what), OUTSIDE);
        }
        due.words("Promise 17", "NOT: it is not FEASIBLE");
        due.is("feasible", x.spare(0, 0), 0);
        x.period(19);
        due.is("spare(0, 0)", x.spare(0, 0), NOT);
        due.is("spare(1, 1)", x.spare(1, 1), NOT);
        due.is("OUTSIDE ahead of NOT", x.spare(0, 2), OUTSIDE);
        due.is("UNKNOWN ahead of both", x.spare(2, 2), UNKNOWN);
    }

    private static void ring(String text, int... registers) {
        SkewPlan x = Due.of(text);
        for (int k = 0; k < registers.length; k++) {
            due.is("cycle(" + k + ") of " + text, x.cycle(k), registers[k]);
        }
        due.is("the end of " + text, x.cycle(registers.length), NONE);
        due.is("feasible() of " + text, x.feasible(), registers.length == 0 ? 1 : 0);
    }

    private static void cycleBounds() {
        due.words("Terms", "CYCLE: the REGISTERS, all unlike, of a ring");
        // 0 1 2 1 is below 0 too, and would come first, but has 1 twice
        ring("net 8;path 0 1 10 10;path 1 2 40 0;period 11", 1, 2);
        due.words("Terms", "CYCLE: each one's SHIFT less that of the one behind it");
        // only 0 1 2 is below 0, not 0 2 1, which the same registers make the other way round
        ring("net 3;path 0 1 9 9;path 1 2 9 9;path 2 0 9 9;period 8", 0, 1, 2);
        ring("net 3;path 1 0 9 9;path 2 1 9 9;path 0 2 9 9;period 8", 0, 2, 1);
        due.words("Terms", "CYCLE: (the last one's less the first one's)");
        ring("path 0 1 15 3;hold 9;period 20", 0, 1);
        ring("net 3;path 0 1 8 8;path 1 2 8 8;path 2 0 12 12;period 9", 0, 1, 2);
        ring("path 1 1 9 3;hold 4", 1);
        due.words("Terms", "CYCLE: a bound (of those there the least one)");
        ring("path 0 1 30 0;path 0 1 5 0;period 20", 0, 1);
        ring("path 0 1 5 0;path 0 1 30 0;period 20", 0, 1);
        ring("path 0 1 9 9;path 1 0 9 0;path 0 1 9 0;hold 1", 0, 1);
        ring("path 0 1 9 0;path 1 0 9 0;path 0 1 9 9;hold 1", 0, 1);
        due.words("Terms", "CYCLE: all in STEPS, cut downward");
        ring("path 0 1 11 8;period 10;step 8");
        ring("path 0 1 11 8;period 10;step 9", 0, 1);
        ring("path 0 1 19 9;period 10;step 9");
        ring("path 0 1 11 1;period 10;step 2", 0, 1);
        due.words("Terms", "CYCLE: these bounds together being below 0");
        ring("path 0 1 15 3;hold 9;period 21");
        ring("net 3;path 0 1 8 8;path 1 2 8 8;path 2 0 11 11;period 9");
        ring("path 1 1 9 4;hold 4");
        // not feasible by another ring, while 0 by itself, and 0 1, are just 0
        ring("path 0 0 10 0;path 0 1 13 3;path 1 1 20 20;period 10", 1);
    }

    private static void cycleFirst() {
        due.words("Terms", "CYCLE: of several the first, beginning with its least REGISTER");
        ring("net 8;path 7 7 9 0;path 6 5 9 0;path 5 6 9 0;hold 1", 5, 6);
        ring("net 8;path 5 5 9 0;path 6 5 9 9;hold 1", 5);
        ring("net 8;path 1 1 9 0;path 0 7 9 0;path 7 0 9 0;hold 1", 0, 7);
        due.words("Terms", "CYCLE: by numbers, REGISTER by REGISTER");
        ring("net 3;path 0 2 9 0;path 2 0 9 0;path 0 1 9 0;path 1 0 9 0;hold 1", 0, 1);
        // 0 1 2 is longer than 0 2, and comes ahead of it
        ring("net 3;path 0 1 50 50;path 1 2 50 50;path 2 0 50 50;path 0 2 50 0;path 2 0 50 0;period 49", 0, 1, 2);
        // 0 2 1 comes ahead of 0 3
        ring("net 4;path 0 2 9 9;path 2 1 9 9;path 1 0 9 9;path 0 3 9 0;path 3 0 9 0;period 8;hold 1", 0, 2, 1);
        due.words("Terms", "CYCLE: (a ring that ends sooner ahead of one that goes on)");
        ring("net 3;path 0 1 30 0;path 1 2 30 30;path 2 0 30 30;period 20", 0, 1);
        ring("path 0 0 9 0;path 0 1 9 0;path 1 0 9 0;hold 1", 0);
        // without the ring 0 1 it is the one that goes on
        ring("net 3;path 0 1 30 30;path 1 2 30 30;path 2 0 30 30;period 20", 0, 1, 2);
    }

    private static void cyclePlaces() {
        due.words("Promise 18", "the k-th REGISTER (0 on); NONE: it has fewer");
        SkewPlan one = Due.of("net 8;path 7 7 9 0;hold 1");
        due.is("cycle(0) of one", one.cycle(0), 7);
        due.is("cycle(1) of one", one.cycle(1), NONE);
        due.is("cycle(7) of one", one.cycle(7), NONE);
        due.is("cycle(8) of one", one.cycle(8), NONE);
        due.is("far behind", one.cycle(HIGHEST), NONE);
        ring("net 8;path 0 1 9 9;path 1 2 9 9;path 2 3 9 9;path 3 4 9 9;path 4 5 9 9;path 5 6 9 9;path 6 7 9 9;path 7 0 9 9;period 8",
                0, 1, 2, 3, 4, 5, 6, 7);
        due.words("Promise 18", "NONE: there is none");
        SkewPlan x = Due.of("path 0 1 30 30;path 1 0 10 10;period 19");
        due.is("no paths", new SkewPlan().cycle(0), NONE);
        due.is("not feasible", x.cycle(1), 1);
        x.period(20);
        for (int k = 0; k <= 8; k++) {
            due.is("cycle(" + k + ") where it is feasible", x.cycle(k), NONE);
        }
        due.words("Promise 18", "OUTSIDE: k below 0");
        due.is("cycle(-1) where it is feasible", x.cycle(-1), OUTSIDE);
        due.is("cycle(-1) where it is not", one.cycle(-1), OUTSIDE);
        due.is("far below", one.cycle(LOWEST), OUTSIDE);
    }

    private static void buffer() {
        // a long path 0 2 beside two short ones, 0 1 and 1 2, one of which has another beside it
        String net = "net 3;path 0 2 90 90;path 0 1 20 10;path 1 2 20 10;path 0 1 12 12";
        due.words("Promise 19", "BUFFER: the PATH that, being SLOWER by n, makes LEAST least");
        SkewPlan x = Due.of(net);
        due.is("least() before", x.least(), 70);
        due.is("65 by the second, 68 by the first", x.buffer(5), 2);
        due.is("50 by the second, 68 by the first", x.buffer(20), 2);
        x.slower(2, 20);
        due.is("least() then", x.least(), 50);
        due.words("Promise 19", "BUFFER: of several the least number");
        SkewPlan several = Due.of(net);
        due.is("69 by either", several.buffer(1), 1);
        due.is("68 by either", several.buffer(2), 1);
        due.is("67 by the second", several.buffer(3), 2);
        due.words("Promise 19", "BUFFER: less than it is");
        due.is("more", Due.of("path 0 0 9 9").buffer(1), NONE);
        due.is("as much", Due.of("path 0 1 9 9").buffer(1), NONE);
        due.is("less by 1", Due.of("path 0 1 9 9;path 0 1 8 8").buffer(1), 1);
        due.words("Promise 19", "BUFFER: (none is more than any)");
        due.is("feasible then", Due.of("path 0 0 99 3;hold 4").buffer(1), 0);
        due.is("feasible then, by the last", Due.of("path 0 1 99 99;path 1 1 99 0;hold 9").buffer(9), 1);
        due.is("81 by the first, 77 by the second", Due.of("path 0 1 60 3;path 1 0 60 3;path 1 0 80 80;hold 4").buffer(4), 1);
        due.is("77 by the first, 81 by the second", Due.of("path 0 1 60 3;path 1 0 60 3;path 0 1 80 80;hold 4").buffer(4), 0);
        SkewPlan most = Due.of(Due.EIGHT_PATHS, "path 0 1 9 9;".repeat(7) + "path 1 1 99 8;hold 9");
        due.is("feasible then, by the sixteenth", most.buffer(1), 15);
        due.words("Promise 19", "NONE");
        due.is("no paths", new SkewPlan().buffer(20), NONE);
        due.is("none as before", Due.of("path 0 0 9 0;hold 2").buffer(1), NONE);
        due.is("none by either of two", Due.of("path 0 0 9 0;path 1 1 9 0;hold 2").buffer(20), NONE);
    }

    private static void bufferOutside() {
        due.words("Promise 19", "BUFFER for n (1 .. 20). OUTSIDE");
        SkewPlan x = Due.of("path 0 0 9 3;hold 4");
        due.is("buffer(1)", x.buffer(1), 0);
        due.is("buffer(20)", x.buffer(20), 0);
        for (int n : new int[] {0, -1, 21, LOWEST, HIGHEST}) {
            due.is("buffer(" + n + ")", x.buffer(n), OUTSIDE);
            due.is("buffer(" + n + ") without paths", new SkewPlan().buffer(n), OUTSIDE);
        }
    }
}
