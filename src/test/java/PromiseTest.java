/** Each promise of the document by itself, with answers worked out by hand. */
public final class PromiseTest {
    private static final int NONE = SkewPlan.NONE, UNKNOWN = SkewPlan.UNKNOWN, OUTSIDE = SkewPlan.OUTSIDE, NOT = SkewPlan.NOT,
            FULL = SkewPlan.FULL, NULL = SkewPlan.NULL, SIZE = SkewPlan.SIZE, CAST = SkewPlan.CAST, INDEX = SkewPlan.INDEX;
    private static final int LOWEST = Integer.MIN_VALUE, HIGHEST = Integer.MAX_VALUE;
    private static final int FLOATS = 0, DOUBLES = 1;

    /** The ring 0 1 2: two long paths and a short one, so that shifts are needed below 60. */
    private static final String RING = "net 3;path 0 1 60 60;path 1 2 30 30;path 2 0 20 20";

    private static final Due due = new Due();

    public static void main(String[] args) {
        promise1NewObject();
        promise2Write();
        promise3Erase();
        promise4Fault();
        promise4FaultByNumbers();
        promise4FaultByCounts();
        promise5Net();
        promise5NetIsAsTold();
        promise6Path();
        promise7Period();
        promise8Slower();
        promise9Undo();
        promise10Keep();
        promise11Back();
        promise12Feasible();
        promise13Shift();
        promise14Least();
        promise15Rate();
        promise16Margin();
        promise17Spare();
        promise18Cycle();
        promise19Buffer();
        promise20Trace();
        promise21Set();
        promise22Get();
        promise23Rest();
        promise23RestIsTheMachines();
        promise24Compare();
        promise25Sum();
        promise26Drop();
        promise27Count();
        wildNumbersThrowNothing();
        due.end();
    }

    private static void counts(String of, SkewPlan x, int... wanted) {
        for (int what = 0; what < wanted.length; what++) {
            due.is(of + ": count(" + what + ")", x.count(what), wanted[what]);
        }
    }

    private static void promise1NewObject() {
        counts("1 new", new SkewPlan(), 2, 0, 0, 0, 1, 99, 0, 0, 0, 0);
        SkewPlan x = new SkewPlan();
        due.is("1 no path", x.path(0, 0), UNKNOWN);
        due.is("1 no trace 0", x.drop(0), NULL);
        due.is("1 no trace 1", x.drop(1), NULL);
        due.is("1 no trace 2", x.drop(2), NULL);
        due.is("1 nothing kept 0", x.back(0), NOT);
        due.is("1 nothing kept 1", x.back(1), NOT);
        SkewPlan other = new SkewPlan();
        other.period(5);
        due.is("1 objects are apart", x.count(5), 99);
    }

    private static void promise2Write() {
        SkewPlan x = new SkewPlan();
        due.is("2 least letter", x.write(0), 1);
        due.is("2 greatest letter", x.write(255), 2);
        due.is("2 below", x.write(-1), OUTSIDE);
        due.is("2 above", x.write(256), OUTSIDE);
        due.is("2 lowest", x.write(LOWEST), OUTSIDE);
        due.is("2 nothing changed", x.count(8), 2);
        for (int i = 3; i <= 200; i++) {
            due.is("2 letter " + i, x.write(97), i);
        }
        due.is("2 full", x.write(97), FULL);
        due.is("2 OUTSIDE ahead of FULL", x.write(256), OUTSIDE);
        due.is("2 still full", x.count(8), 200);
    }

    private static void promise3Erase() {
        SkewPlan x = new SkewPlan();
        due.is("3 empty", x.erase(), 0);
        Due.write(x, "net 3");
        due.is("3 five", x.erase(), 5);
        due.is("3 none left", x.erase(), 0);
        Due.write(x, "hold 2");
        due.is("3 only the new text is read", x.net(), 1);
        due.is("3 hold", x.count(3), 2);
        due.is("3 registers", x.count(0), 2);
    }

    private static void fault(String text, int place) {
        SkewPlan x = new SkewPlan();
        Due.write(x, text);
        due.is("4 fault of '" + text + "'", x.fault(), place);
        due.is("4 text stays '" + text + "'", x.count(8), text.length());
        due.is("4 net of '" + text + "'", x.net() == NOT ? 1 : 0, place == NONE ? 0 : 1);
    }

    private static void promise4Fault() {
        fault("", 0);
        fault("   ", 3);
        fault("net", 3);
        fault("net  ", 5);
        fault("net 2", NONE);
        fault("  net   2  ", NONE);
        fault("net2", NONE);
        fault("net2;hold3;path0 0 1 1", NONE);
        fault("net 2 ; hold 1", NONE);
        fault("net 2;", 6);
        fault("net 2; ", 7);
        fault(";net 2", 0);
        fault("net 2;;hold 1", 6);
        fault("net 2 hold 1", 6);
        fault("net 2hold 1", 5);
        fault("nets 2", 0);
        fault("ne t 2", 0);
        fault("Net 2", 0);
        fault("nEt 2", 0);
        fault(" n 2", 1);
        fault("2 net", 0);
        fault("net two", 4);
        fault("net -2", 4);
        fault("net\t2", 3);
        fault("net 2.", 5);
        fault("net 2\n", 5);
        fault("net 2" + (char) 233, 5);
        fault("net 2" + (char) 0, 5);
        fault("net 2 3", 6);
        fault("path 0 1 5", 10);
        fault("path 0 1 5;hold 1", 10);
        fault("path 0 1 5 5 5", 13);
        fault("hold 1;skew 2;net 9", 7);
        fault("path 0 net", 7);
        for (String start : new String[] {"path", "path 0", "path 0 1", "path 0 1 5", "net", "hold"}) {
            fault(start, start.length());
            fault(start + ";hold 1", start.length());
            fault(start + " x", start.length() + 1);
        }
        fault("netz 2", 0);
        fault("zap 2", 0);
        fault("xet 2", 0);
        fault("neta 2", 0);
        fault("net `2", 4);
        fault("net {2", 4);
        fault("net /", 4);
        fault("net :", 4);
        fault(" ".repeat(200), 200);
        fault(" ".repeat(197) + "net", 200);
        fault(" ".repeat(195) + "net 2", NONE);
        fault(" ".repeat(194) + "net 2;", 200);
        SkewPlan x = new SkewPlan();
        Due.write(x, "net 2;hold 3");
        Due.write(x, "net ");
        due.is("4 what was erased is not read", x.fault(), 4);
    }

    private static void promise4FaultByNumbers() {
        fault("net 1", 4);
        fault("net 8", NONE);
        fault("net 9", 4);
        fault("net 008", NONE);
        fault("net 0008", 4);
        fault("net 99999999999999999999", 4);
        fault("net 4294967298", 4);
        fault("setup 0;setup 9", NONE);
        fault("setup 10", 6);
        fault("hold 0;hold 9", NONE);
        fault("hold 10", 5);
        fault("step 1;step 9", NONE);
        fault("step 0", 5);
        fault("step 10", 5);
        fault("period 0;period 999", NONE);
        fault("period 1000", 7);
        fault("path 1 1 99 99", NONE);
        fault("path 0 0 0 0", NONE);
        fault("path 2 0 1 1", 5);
        fault("path 0 2 1 1", 7);
        fault("path 0 0 100 1", 9);
        fault("path 0 0 7 8", 11);
        fault("net 3;path 2 2 7 7;net 2;path 0 2 7 7", 32);
        fault("net 8;path 7 7 7 7", NONE);
    }

    private static void promise4FaultByCounts() {
        String sixteen = "path0 0 1 1;".repeat(16);
        fault(sixteen + "step 1", NONE);
        fault(sixteen + "path 0", 192);
        SkewPlan x = Due.of(sixteen + "hold 1");
        Due.write(x, "step 2;path 0 0 1 1");
        due.is("4 a seventeenth beside earlier ones", x.fault(), 7);
        Due.write(x, "net 2;path 0 0 1 1");
        due.is("4 a net begins anew", x.fault(), NONE);
        String clauses = "net 2;".repeat(23);
        fault(clauses + "net 2", NONE);
        fault(clauses + "net 2 ;", 144);
        fault(clauses + "net 2;net 2", 143);
        due.is("4 as many as can be", Due.tell(x, clauses + "net 7"), 24);
        Due.write(x, "path 6 6 9 9");
        due.is("4 registers of an earlier text", x.fault(), NONE);
    }

    private static void promise5Net() {
        SkewPlan x = new SkewPlan();
        due.is("5 empty", x.net(), NOT);
        due.is("5 all words", Due.tell(x, "net 4;path 0 1 50 5;path 3 3 9 0;setup 1;hold 2;step 3;period 45"), 7);
        counts("5 all words", x, 4, 2, 1, 2, 3, 45, 0, 0, 0, 1);
        Due.write(x, "hold 7;step 0");
        due.is("5 a fault", x.net(), NOT);
        counts("5 a fault changes nothing", x, 4, 2, 1, 2, 3, 45, 0, 0, 13, 1);
        due.is("5 told on", Due.tell(x, "setup 9;path 1 2 3 3"), 2);
        counts("5 told on", x, 4, 3, 9, 2, 3, 45, 0, 0, 0, 1);
        due.is("5 in their order", Due.tell(x, "hold 5;step 2;hold 6"), 3);
        counts("5 in their order", x, 4, 3, 9, 6, 2, 45, 0, 0, 0, 3);
        due.is("5 net is as at first", Due.tell(x, "setup 3;path 0 0 1 1;net 5"), 3);
        counts("5 net is as at first", x, 5, 0, 0, 0, 1, 99, 0, 0, 0, 0);
    }

    private static void promise5NetIsAsTold() {
        SkewPlan x = Due.of("path 0 1 50 5;period 70");
        x.slower(0, 9);
        x.period(71);
        x.keep(0);
        x.keep(1);
        x.trace(0, FLOATS, 3);
        x.trace(2, DOUBLES, 0);
        Due.write(x, "skew");
        due.is("5 refused", x.net(), NOT);
        due.is("5 refused: places", x.count(6), 3);
        due.is("5 refused: undone", x.count(7), 2);
        due.is("5 refused: kept", x.back(0), 71);
        due.is("5 told", Due.tell(x, "hold 1"), 1);
        due.is("5 PERIOD as told", x.count(5), 70);
        due.is("5 LONG as told", x.path(0, 2), 50);
        due.is("5 SHORT as told", x.path(0, 3), 5);
        due.is("5 nothing kept 0", x.back(0), NOT);
        due.is("5 nothing kept 1", x.back(1), NOT);
        due.is("5 no places", x.count(6), 0);
        due.is("5 missing 0", x.sum(0, 0), NULL);
        due.is("5 missing 2", x.sum(2, 0), NULL);
        x.period(50);
        Due.tell(x, "hold 1");
        due.is("5 nothing to undo", x.undo(), NOT);
        due.is("5 PERIOD as told again", x.count(5), 70);
    }

    private static void promise6Path() {
        SkewPlan x = Due.of("net 8;path 3 7 99 4;path 5 5 0 0;setup 9;hold 6;period 20");
        int[] wanted = {3, 7, 99, 4, 1912, 1998};
        int[] second = {5, 5, 0, 0, 2011, 1994};
        for (int what = 0; what <= 5; what++) {
            due.is("6 path(0, " + what + ")", x.path(0, what), wanted[what]);
            due.is("6 path(1, " + what + ")", x.path(1, what), second[what]);
        }
        x.period(0);
        due.is("6 LATE at PERIOD", x.path(0, 4), 1892);
        x.slower(0, 20);
        due.is("6 LATE of slower", x.path(0, 4), 1872);
        due.is("6 SOON of slower", x.path(0, 5), 2018);
        due.is("6 no path 2", x.path(2, 0), UNKNOWN);
        due.is("6 no path -1", x.path(-1, 0), UNKNOWN);
        due.is("6 what 6", x.path(0, 6), OUTSIDE);
        due.is("6 what -1", x.path(0, -1), OUTSIDE);
        due.is("6 UNKNOWN first", x.path(2, 6), UNKNOWN);
    }

    private static void promise7Period() {
        SkewPlan x = new SkewPlan();
        due.is("7 same", x.period(99), NOT);
        due.is("7 to 0", x.period(0), 99);
        due.is("7 to 999", x.period(999), 0);
        due.is("7 is", x.count(5), 999);
        due.is("7 above", x.period(1000), OUTSIDE);
        due.is("7 below", x.period(-1), OUTSIDE);
        due.is("7 nothing changed", x.count(5), 999);
        due.is("7 undone can be", x.count(7), 2);
    }

    private static void promise8Slower() {
        SkewPlan x = Due.of("path 0 1 99 10;path 1 0 20 5");
        due.is("8 by 1", x.slower(1, 1), 21);
        due.is("8 SHORT too", x.path(1, 3), 6);
        for (int i = 1; i <= 5; i++) {
            due.is("8 by 20, " + i, x.slower(0, 20), 99 + 20 * i);
        }
        due.is("8 above 199", x.slower(0, 1), NOT);
        due.is("8 SHORT", x.path(0, 3), 110);
        due.is("8 no path", x.slower(2, 1), UNKNOWN);
        due.is("8 no path -1", x.slower(-1, 0), UNKNOWN);
        due.is("8 by 0", x.slower(0, 0), OUTSIDE);
        due.is("8 by 21", x.slower(0, 21), OUTSIDE);
        due.is("8 by -1", x.slower(1, -1), OUTSIDE);
        due.is("8 the other stayed", x.path(1, 2), 21);
        due.is("8 undone can be", x.count(7), 6);
    }

    private static void promise9Undo() {
        SkewPlan x = Due.of("path 0 1 50 10");
        due.is("9 none", x.undo(), NOT);
        x.period(60);
        x.slower(0, 7);
        x.period(61);
        due.is("9 period", x.undo(), 2);
        due.is("9 PERIOD", x.count(5), 60);
        due.is("9 slower", x.undo(), 1);
        due.is("9 LONG", x.path(0, 2), 50);
        due.is("9 SHORT", x.path(0, 3), 10);
        due.is("9 first", x.undo(), 0);
        due.is("9 PERIOD at first", x.count(5), 99);
        due.is("9 none more", x.undo(), NOT);
        for (int t = 1; t <= 11; t++) {
            x.period(t);
            due.is("9 can be undone " + t, x.count(7), Math.min(t, 8));
        }
        x.period(1000);
        x.period(11);
        for (int left = 7; left >= 0; left--) {
            due.is("9 the last 8: " + left, x.undo(), left);
            due.is("9 PERIOD then: " + left, x.count(5), left + 3);
        }
        due.is("9 no ninth", x.undo(), NOT);
        due.is("9 stays", x.count(5), 3);
    }

    private static void promise10Keep() {
        SkewPlan x = Due.of("path 0 1 50 10;period 44");
        due.is("10 keep 0", x.keep(0), 44);
        x.period(45);
        x.slower(0, 3);
        due.is("10 keep 1", x.keep(1), 45);
        due.is("10 keep 2", x.keep(2), UNKNOWN);
        due.is("10 keep -1", x.keep(-1), UNKNOWN);
        due.is("10 can still be undone", x.count(7), 2);
        x.slower(0, 4);
        due.is("10 back 1", x.back(1), 45);
        due.is("10 LONG 1", x.path(0, 2), 53);
        due.is("10 back 0", x.back(0), 44);
        due.is("10 LONG 0", x.path(0, 2), 50);
        x.period(46);
        due.is("10 kept anew", x.keep(0), 46);
        x.period(47);
        due.is("10 back to it", x.back(0), 46);
    }

    private static void promise11Back() {
        SkewPlan x = Due.of("path 0 1 50 10");
        due.is("11 nothing", x.back(0), NOT);
        due.is("11 no such", x.back(2), UNKNOWN);
        due.is("11 no such -1", x.back(-1), UNKNOWN);
        x.keep(1);
        due.is("11 the other", x.back(0), NOT);
        x.period(1);
        x.slower(0, 2);
        due.is("11 back", x.back(1), 99);
        due.is("11 SHORT", x.path(0, 3), 10);
        due.is("11 nothing can be undone", x.undo(), NOT);
        x.period(2);
        due.is("11 again", x.back(1), 99);
        Due.tell(x, "hold 1");
        due.is("11 not since the text", x.back(1), NOT);
    }

    private static void promise12Feasible() {
        due.is("12 no paths", new SkewPlan().feasible(), 1);
        SkewPlan x = Due.of("path 0 0 50 3;setup 4;hold 3;period 54");
        due.is("12 itself, LATE met", x.feasible(), 1);
        x.period(53);
        due.is("12 itself, LATE not met", x.feasible(), 0);
        due.is("12 itself, SOON not met", Due.of("path 1 1 50 3;hold 4").feasible(), 0);
        SkewPlan ring = Due.of(RING + ";period 37");
        due.is("12 ring of 110 in three periods of 37", ring.feasible(), 1);
        ring.period(36);
        due.is("12 ring of 110 in three periods of 36", ring.feasible(), 0);
        // s0 less s1 at most -3, s1 less s0 at most 3: in steps of 2, at most -4 and 2
        due.is("12 steps of 1", Due.of("path 0 1 13 3;period 10").feasible(), 1);
        due.is("12 steps of 2", Due.of("path 0 1 13 3;period 10;step 2").feasible(), 0);
        due.is("12 steps of 3", Due.of("path 0 1 13 3;period 10;step 3").feasible(), 1);
    }

    private static void promise13Shift() {
        SkewPlan x = Due.of(RING + ";period 40");
        due.is("13 register 0", x.shift(0), 20);
        due.is("13 register 1", x.shift(1), 0);
        due.is("13 register 2", x.shift(2), 0);
        due.is("13 no register 3", x.shift(3), UNKNOWN);
        due.is("13 no register -1", x.shift(-1), UNKNOWN);
        x.period(36);
        due.is("13 not feasible", x.shift(0), NOT);
        due.is("13 UNKNOWN first", x.shift(3), UNKNOWN);
        SkewPlan chain = Due.of("net 4;path 0 1 30 30;path 1 2 30 30;path 2 3 25 25;period 20;step 4");
        // each at least 10, 10, 5 below the one behind it: 12, 12, 8 in steps of 4
        due.is("13 chain 0", chain.shift(0), 32);
        due.is("13 chain 1", chain.shift(1), 20);
        due.is("13 chain 2", chain.shift(2), 8);
        due.is("13 chain 3", chain.shift(3), 0);
        SkewPlan soon = Due.of("path 0 1 9 2;hold 9");
        due.is("13 SOON puts the later one down", soon.shift(1), 7);
        due.is("13 SOON leaves the first", soon.shift(0), 0);
        SkewPlan wider = Due.of(RING + ";period 40");
        due.is("13 before", wider.shift(0), 20);
        wider.period(55);
        due.is("13 by a wider period", wider.shift(0), 5);
        due.is("13 foretold between", wider.least(), 37);
        due.is("13 still", wider.shift(0), 5);
    }

    private static void promise14Least() {
        due.is("14 no paths", new SkewPlan().least(), 0);
        SkewPlan x = Due.of(RING + ";setup 1");
        due.is("14 ring", x.least(), 38);
        due.is("14 nothing changes", x.count(5), 99);
        due.is("14 none", Due.of("path 0 0 5 3;hold 4").least(), NONE);
        due.is("14 none by two SOON bounds", Due.of("path 0 1 5 3;path 1 0 5 3;hold 4").least(), NONE);
        // 19 LATE of 10 and 9: at 10 bounds 0 and 1; in steps of 5 they are 0 and 0, at 9 -5 and 0
        due.is("14 in steps", Due.of("path 0 1 10 10;path 1 0 9 9;step 5").least(), 10);
        due.is("14 in single steps", Due.of("path 0 1 10 10;path 1 0 8 8").least(), 9);
        due.is("14 itself", Due.of("path 1 1 99 0;setup 9").least(), 108);
        SkewPlan slow = Due.of("path 1 1 99 0");
        for (int i = 0; i < 5; i++) {
            slow.slower(0, 20);
        }
        due.is("14 slower", slow.least(), 199);
    }

    private static void rate(String text, int above, int below) {
        SkewPlan x = Due.of(text);
        due.is("15 above of " + text, x.rate(0), above);
        due.is("15 below of " + text, x.rate(1), below);
    }

    private static void promise15Rate() {
        rate("net 5", 0, 1);
        rate(RING, 110, 3);
        rate(RING + ";setup 1", 113, 3);
        rate(RING + ";setup 1;step 7;period 3", 113, 3);
        rate("path 0 1 10 10;path 1 0 9 9", 19, 2);
        rate("path 0 1 10 10;path 1 0 8 8", 9, 1);
        rate("path 0 0 0 0", 0, 1);
        rate("path 0 1 0 0;path 1 0 0 0;hold 0;setup 0", 0, 1);
        rate("path 0 0 5 3;hold 4", NONE, NONE);
        rate("net 8;path 0 1 9 9;path 1 2 9 9;path 2 3 9 9;path 3 4 9 9;path 4 5 9 9;path 5 6 9 9;path 6 7 9 9;path 7 0 8 8", 71, 8);
        // LATE of the first, less what its own SOON bound gives: 50 less 10
        rate("path 0 1 50 10", 40, 1);
        SkewPlan x = new SkewPlan();
        due.is("15 part 2", x.rate(2), OUTSIDE);
        due.is("15 part -1", x.rate(-1), OUTSIDE);
        due.is("15 OUTSIDE ahead of NONE", Due.of("path 0 0 5 3;hold 4").rate(2), OUTSIDE);
    }

    private static void promise16Margin() {
        due.is("16 no paths", new SkewPlan().margin(), 3200);
        SkewPlan x = Due.of("path 0 0 50 3;hold 2");
        due.is("16 by SOON", x.margin(), 2001);
        x.period(45);
        due.is("16 by LATE", x.margin(), 1995);
        // LATE 60 less m, SOON 10 less m, together no less than 0
        due.is("16 both", Due.of("path 0 1 40 10;period 100").margin(), 2035);
        // in steps of 9: LATE 60 less m and SOON 10 less m are 27 and -27 at 33, 18 and -27 at 34
        due.is("16 in steps", Due.of("path 0 1 40 10;period 100;step 9").margin(), 2033);
        SkewPlan low = Due.of("path 0 0 99 0;setup 9;period 0");
        due.is("16 far below", low.margin(), 1892);
        SkewPlan high = Due.of("path 0 1 99 99;path 0 0 99 99;period 999");
        due.is("16 far above", high.margin(), 2099);
    }

    private static void promise17Spare() {
        SkewPlan x = Due.of(RING + ";setup 1;hold 5;period 40");
        // s0 less s1 at most -21, s1 less s2 at most 9, s2 less s0 at most 19: s0 is -21, s2 is -2
        due.is("17 LATE 0", x.spare(0, 0), 0);
        due.is("17 SOON 0", x.spare(0, 1), 34);
        due.is("17 LATE 1", x.spare(1, 0), 7);
        due.is("17 SOON 1", x.spare(1, 1), 27);
        due.is("17 LATE 2", x.spare(2, 0), 0);
        due.is("17 SOON 2", x.spare(2, 1), 34);
        due.is("17 no path 3", x.spare(3, 0), UNKNOWN);
        due.is("17 no path -1", x.spare(-1, 0), UNKNOWN);
        due.is("17 what 2", x.spare(0, 2), OUTSIDE);
        due.is("17 what -1", x.spare(0, -1), OUTSIDE);
        x.period(30);
        due.is("17 not feasible", x.spare(0, 0), NOT);
        due.is("17 OUTSIDE first", x.spare(0, 2), OUTSIDE);
        due.is("17 UNKNOWN first", x.spare(3, 2), UNKNOWN);
        SkewPlan steps = Due.of("path 0 1 13 9;period 10;step 5");
        due.is("17 the bound is not cut, LATE", steps.spare(0, 0), 2);
        due.is("17 the bound is not cut, SOON", steps.spare(0, 1), 4);
    }

    private static void ring(String text, int... registers) {
        SkewPlan x = Due.of(text);
        for (int k = 0; k < registers.length; k++) {
            due.is("18 cycle(" + k + ") of " + text, x.cycle(k), registers[k]);
        }
        due.is("18 the end of " + text, x.cycle(registers.length), NONE);
        due.is("18 far behind of " + text, x.cycle(HIGHEST), NONE);
    }

    private static void promise18Cycle() {
        ring(RING);
        ring(RING + ";period 36", 0, 1, 2);
        ring("net 4;path 3 3 9 1;hold 2", 3);
        ring("net 4;path 3 3 9 1;path 2 1 9 0;path 1 2 9 0;hold 2", 1, 2);
        // the ring 2 1 0 of the three paths turned round begins with its least register too
        ring("net 3;path 1 0 60 60;path 2 1 30 30;path 0 2 20 20;period 36", 0, 2, 1);
        // register 0 by itself ends sooner than 0 1
        ring("net 2;path 0 0 9 0;path 0 1 9 0;path 1 0 9 0;hold 1", 0);
        // 0 1 comes ahead of 0 2, and both ahead of 1 by itself
        ring("net 3;path 1 1 9 0;path 0 2 9 0;path 2 0 9 0;path 0 1 9 0;path 1 0 9 0;hold 1", 0, 1);
        // 0 1 2 comes ahead of 0 2, though longer
        ring("net 3;path 0 1 50 50;path 1 2 50 50;path 2 0 50 50;path 0 2 50 0;path 2 0 50 0;period 49", 0, 1, 2);
        // only cut to steps it is below 0
        ring("path 0 1 13 3;period 10");
        ring("path 0 1 13 3;period 10;step 2", 0, 1);
        // 0 1 together is just 0, which is not below
        ring("path 0 1 13 3;path 1 1 20 20;period 10", 1);
        // 0 1 2 1 would be below 0, but has a register twice
        ring("net 4;path 0 1 10 10;path 1 2 40 0;period 11", 1, 2);
        due.is("18 below", new SkewPlan().cycle(-1), OUTSIDE);
        due.is("18 lowest", new SkewPlan().cycle(LOWEST), OUTSIDE);
        ring("net 8;path 7 6 9 9;path 6 5 9 9;path 5 4 9 9;path 4 3 9 9;path 3 2 9 9;path 2 1 9 9;path 1 0 9 9;path 0 7 9 9;period 8",
                0, 7, 6, 5, 4, 3, 2, 1);
    }

    private static void promise19Buffer() {
        SkewPlan x = Due.of("path 0 0 9 1;hold 4");
        due.is("19 too little", x.buffer(2), NONE);
        due.is("19 none is more than any", x.buffer(3), 0);
        due.is("19 nothing changes", x.path(0, 2), 9);
        due.is("19 nothing to undo", x.count(7), 0);
        due.is("19 by 0", x.buffer(0), OUTSIDE);
        due.is("19 by 21", x.buffer(21), OUTSIDE);
        due.is("19 no paths", new SkewPlan().buffer(20), NONE);
        SkewPlan one = Due.of("path 0 0 9 3;hold 4");
        due.is("19 by 1", one.buffer(1), 0);
        due.is("19 by 20", one.buffer(20), 0);
        SkewPlan most = Due.of("path0 1 9 9;".repeat(15) + "path1 1 9 0;hold 4");
        due.is("19 the last of sixteen", most.buffer(4), 15);
        // LONG of path 0, less the SOON bound of path 1: 50 less 10, then 50 less 15
        SkewPlan two = Due.of("path 0 1 50 30;path 0 1 20 10");
        due.is("19 least before", two.least(), 40);
        due.is("19 the short one", two.buffer(5), 1);
        two.slower(1, 5);
        due.is("19 least then", two.least(), 35);
        SkewPlan alike = Due.of("net 4;path 2 3 50 30;path 0 1 50 30;path 0 1 20 10;path 0 1 20 10");
        due.is("19 two short ones: neither alone", alike.buffer(5), NONE);
        SkewPlan first = Due.of("net 3;path 1 2 50 40;path 0 0 9 0;path 0 0 9 8;hold 9");
        due.is("19 still none", first.buffer(9), NONE);
        SkewPlan several = Due.of("net 3;path 0 1 9 0;path 1 0 9 0;hold 4");
        due.is("19 of several the least", several.buffer(8), 0);
        SkewPlan best = Due.of("net 3;path 0 1 9 0;path 1 0 5 0;path 0 1 9 4;path 1 0 30 9;hold 4;setup 3");
        due.is("19 the best", best.buffer(8), 1);
        // two LATE bounds of 199 less the SOON bound of path 0, over two: it alone can help
        SkewPlan full = Due.of("net 3;path 0 1 99 0;path 0 2 99 99;path 2 1 99 99");
        for (int i = 0; i < 15; i++) {
            full.slower(i % 3, i < 12 ? 20 : i == 12 ? 10 : 20);
        }
        due.is("19 at LONG 189", full.least(), 154);
        due.is("19 to LONG 199", full.buffer(10), 0);
        due.is("19 not above LONG 199", full.buffer(11), NONE);
    }

    private static void promise20Trace() {
        SkewPlan x = new SkewPlan();
        due.is("20 none", x.trace(0, FLOATS, 0), 0);
        due.is("20 eight", x.trace(2, DOUBLES, 8), 8);
        due.is("20 nine", x.trace(1, FLOATS, 9), OUTSIDE);
        due.is("20 fewer than none", x.trace(2, FLOATS, -1), SIZE);
        due.is("20 lowest", x.trace(2, FLOATS, LOWEST), SIZE);
        due.is("20 no sort", x.trace(0, 2, 1), OUTSIDE);
        due.is("20 OUTSIDE ahead of SIZE", x.trace(0, -1, -1), OUTSIDE);
        due.is("20 no trace", x.trace(3, 2, -1), UNKNOWN);
        due.is("20 no trace -1", x.trace(-1, 0, 1), UNKNOWN);
        due.is("20 places", x.count(6), 8);
        due.is("20 still of doubles", x.get(2, DOUBLES, 7), 2000000);
        x.set(2, DOUBLES, 7, 5, 1);
        x.set(2, DOUBLES, 6, 0, 0);
        x.set(2, DOUBLES, 0, 3, 1);
        due.is("20 anew", x.trace(2, DOUBLES, 8), 8);
        due.is("20 noughts", x.get(2, DOUBLES, 7), 2000000);
        due.is("20 nought at first", x.get(2, DOUBLES, 0), 2000000);
        due.is("20 numbers again", x.sum(2, 1), 0);
        due.is("20 of the other sort", x.trace(2, FLOATS, 2), 2);
        due.is("20 of floats", x.get(2, FLOATS, 1), 2000000);
        due.is("20 none is not missing", x.drop(0), 0);
    }

    private static void promise21Set() {
        SkewPlan x = new SkewPlan();
        due.is("21 missing", x.set(0, FLOATS, 0, 1, 1), NULL);
        x.trace(0, FLOATS, 2);
        x.trace(1, DOUBLES, 2);
        due.is("21 third", x.set(0, FLOATS, 0, 1, 3), 2000333);
        due.is("21 cut towards 0", x.set(1, DOUBLES, 0, -2, 3), 1999334);
        due.is("21 greatest by 1", x.set(1, DOUBLES, 1, 9999, 1), 3000000);
        due.is("21 least by 1", x.set(1, DOUBLES, 1, -9999, 1), 1000000);
        due.is("21 just within", x.set(1, DOUBLES, 1, 9999, 10), 2999900);
        due.is("21 by nought", x.set(1, DOUBLES, 1, 1, 0), 3000000);
        due.is("21 below by nought", x.set(0, FLOATS, 1, -1, 0), 1000000);
        due.is("21 no number", x.set(0, FLOATS, 1, 0, 0), 2000000);
        due.is("21 counted", x.sum(0, 1), 1);
        due.is("21 a number again", x.set(0, FLOATS, 1, 7, -2), 1996500);
        due.is("21 none counted", x.sum(0, 1), 0);
        // a float so multiplied as a float rounds where a double does not
        for (int b = 1; b <= 9999; b += 7) {
            x = new SkewPlan();
            x.trace(0, FLOATS, 2);
            x.trace(1, DOUBLES, 2);
            for (int a = -9999; a <= 9999; a += 1111) {
                int asFloat = (int) ((float) a / (float) b * 1000f);
                int asDouble = (int) ((double) a / (double) b * 1000.0);
                due.is("21 floats " + a + " by " + b, x.set(0, FLOATS, 0, a, b), 2000000 + within(asFloat));
                due.is("21 doubles " + a + " by " + b, x.set(1, DOUBLES, 0, a, b), 2000000 + within(asDouble));
            }
        }
        due.is("21 no trace", x.set(3, 2, 0, 1, 1), UNKNOWN);
        due.is("21 no sort", x.set(0, 2, 0, 1, 1), OUTSIDE);
        due.is("21 a above", x.set(0, FLOATS, 0, 10000, 1), OUTSIDE);
        due.is("21 a below", x.set(0, FLOATS, 0, -10000, 1), OUTSIDE);
        due.is("21 b above", x.set(0, FLOATS, 0, 1, 10000), OUTSIDE);
        due.is("21 b below", x.set(0, FLOATS, 0, 1, -10000), OUTSIDE);
        due.is("21 OUTSIDE ahead of NULL", x.set(2, FLOATS, 0, 1, 10000), OUTSIDE);
        due.is("21 NULL ahead of CAST", x.set(2, DOUBLES, 9, 1, 1), NULL);
        due.is("21 CAST ahead of INDEX", x.set(0, DOUBLES, 9, 1, 1), CAST);
        due.is("21 behind the end", x.set(0, FLOATS, 2, 1, 1), INDEX);
        due.is("21 ahead of the first", x.set(0, FLOATS, -1, 1, 1), INDEX);
    }

    private static int within(int thousand) {
        return Math.max(-1000000, Math.min(1000000, thousand));
    }

    private static void promise22Get() {
        SkewPlan x = new SkewPlan();
        due.is("22 missing", x.get(1, DOUBLES, 0), NULL);
        x.trace(1, DOUBLES, 3);
        x.set(1, DOUBLES, 2, 5, 4);
        due.is("22 nought", x.get(1, DOUBLES, 0), 2000000);
        due.is("22 place 2", x.get(1, DOUBLES, 2), 2001250);
        due.is("22 as floats", x.get(1, FLOATS, 2), CAST);
        due.is("22 CAST ahead of INDEX", x.get(1, FLOATS, 3), CAST);
        due.is("22 behind the end", x.get(1, DOUBLES, 3), INDEX);
        due.is("22 ahead of the first", x.get(1, DOUBLES, -1), INDEX);
        due.is("22 no sort", x.get(1, 2, 0), OUTSIDE);
        due.is("22 OUTSIDE ahead of NULL", x.get(0, -1, 0), OUTSIDE);
        due.is("22 no trace", x.get(3, 2, 0), UNKNOWN);
        due.is("22 no trace -1", x.get(-1, 0, 0), UNKNOWN);
        x.trace(0, FLOATS, 0);
        due.is("22 no places", x.get(0, FLOATS, 0), INDEX);
    }

    private static void promise23Rest() {
        SkewPlan x = new SkewPlan();
        due.is("23 missing", x.rest(0, FLOATS, 0, 0), NULL);
        x.trace(0, DOUBLES, 6);
        x.set(0, DOUBLES, 0, 15, 2);
        x.set(0, DOUBLES, 1, -2, 1);
        x.set(0, DOUBLES, 2, 1, 0);
        x.set(0, DOUBLES, 3, 0, 0);
        x.set(0, DOUBLES, 5, -15, 2);
        due.is("23 the sign of what is divided", x.rest(0, DOUBLES, 0, 1), 2001500);
        due.is("23 is at its place", x.get(0, DOUBLES, 0), 2001500);
        due.is("23 the other stays", x.get(0, DOUBLES, 1), 1998000);
        due.is("23 below 0", x.rest(0, DOUBLES, 5, 1), 1998500);
        due.is("23 by what has no end", x.rest(0, DOUBLES, 5, 2), 1998500);
        due.is("23 numbers till now", x.sum(0, 1), 1);
        due.is("23 what has no end", x.rest(0, DOUBLES, 2, 1), 2000000);
        due.is("23 it is no number", x.sum(0, 1), 2);
        due.is("23 by nought", x.rest(0, DOUBLES, 0, 4), 2000000);
        due.is("23 is no number either", x.sum(0, 1), 3);
        due.is("23 by no number", x.rest(0, DOUBLES, 1, 3), 2000000);
        due.is("23 no number then", x.sum(0, 1), 4);
        due.is("23 no number by a number", x.rest(0, DOUBLES, 1, 5), 2000000);
        due.is("23 is still none", x.sum(0, 1), 4);
        SkewPlan even = new SkewPlan();
        even.trace(0, FLOATS, 2);
        for (int times = 0; times <= 70; times++) {
            even.set(0, FLOATS, 0, -3 * times, 1);
            even.set(0, FLOATS, 1, 3, 1);
            due.is("23 nothing over, " + times + " times", even.rest(0, FLOATS, 0, 1), 2000000);
            even.set(0, FLOATS, 0, 3 * times + 2, 1);
            due.is("23 two over, " + times + " times", even.rest(0, FLOATS, 0, 1), 2002000);
        }
        due.is("23 by itself", x.rest(0, DOUBLES, 5, 5), 2000000);
        due.is("23 which is a number", x.sum(0, 1), 4);
        due.is("23 nought by nought", x.rest(0, DOUBLES, 4, 5), 2000000);
        due.is("23 is none", x.sum(0, 1), 5);
        due.is("23 i behind the end", x.rest(0, DOUBLES, 6, 0), INDEX);
        due.is("23 j behind the end", x.rest(0, DOUBLES, 0, 6), INDEX);
        due.is("23 j ahead of the first", x.rest(0, DOUBLES, 0, -1), INDEX);
        due.is("23 CAST", x.rest(0, FLOATS, 0, 6), CAST);
        due.is("23 OUTSIDE", x.rest(1, 2, 0, 0), OUTSIDE);
        due.is("23 UNKNOWN", x.rest(3, 2, 0, 0), UNKNOWN);
    }

    private static void promise23RestIsTheMachines() {
        for (int turn = 1; turn < 4000; turn++) {
            SkewPlan x = new SkewPlan();
            x.trace(0, FLOATS, 3);
            x.trace(1, DOUBLES, 3);
            int a = turn * 7919 % 19999 - 9999;
            int b = turn * 104729 % 9999 + 1;
            int c = turn * 31 % 997 + 1;
            float f = (float) a / b;
            double d = (double) a / b;
            // what is left over, taken again by smaller and smaller parts, shows every bit of it
            float g = (float) c / 9973;
            double e = (double) c / 9973;
            restsAre(x, FLOATS, a, b, c, 2000000 + within((int) (f % g * 1000f)), 2000000 + within((int) (g % (f % g) * 1000f)));
            restsAre(x, DOUBLES, a, b, c, 2000000 + within((int) (d % e * 1000.0)), 2000000 + within((int) (e % (d % e) * 1000.0)));
            due.is("23 floats are the same", x.compare(0, FLOATS, 0, 1), f % g < g % (f % g) ? 2 : f % g == g % (f % g) ? 1 : 0);
            due.is("23 doubles are the same", x.compare(1, DOUBLES, 0, 1), d % e < e % (d % e) ? 2 : d % e == e % (d % e) ? 1 : 0);
        }
    }

    private static void restsAre(SkewPlan x, int sort, int a, int b, int c, int first, int second) {
        x.set(sort, sort, 0, a, b);
        x.set(sort, sort, 1, c, 9973);
        due.is("23 rest of " + a + " by " + b + ", sort " + sort, x.rest(sort, sort, 0, 1), first);
        due.is("23 rest by that, of " + c + ", sort " + sort, x.rest(sort, sort, 1, 0), second);
    }

    private static void promise24Compare() {
        SkewPlan x = new SkewPlan();
        due.is("24 missing", x.compare(2, FLOATS, 0, 0), NULL);
        x.trace(2, FLOATS, 7);
        x.set(2, FLOATS, 0, 1, 3);
        x.set(2, FLOATS, 1, 2, 3);
        x.set(2, FLOATS, 2, 0, 0);
        x.set(2, FLOATS, 3, 1, 0);
        x.set(2, FLOATS, 4, -1, 0);
        x.set(2, FLOATS, 5, 0, -1);
        due.is("24 less", x.compare(2, FLOATS, 0, 1), 2);
        due.is("24 more", x.compare(2, FLOATS, 1, 0), 0);
        due.is("24 same", x.compare(2, FLOATS, 1, 1), 1);
        due.is("24 noughts of either sign", x.compare(2, FLOATS, 5, 6), 1);
        due.is("24 and back", x.compare(2, FLOATS, 6, 5), 1);
        due.is("24 no number to itself", x.compare(2, FLOATS, 2, 2), 0);
        due.is("24 no number to one", x.compare(2, FLOATS, 2, 0), 0);
        due.is("24 one to no number", x.compare(2, FLOATS, 4, 2), 0);
        due.is("24 no end", x.compare(2, FLOATS, 1, 3), 2);
        due.is("24 no end either way", x.compare(2, FLOATS, 4, 3), 2);
        due.is("24 no end is the same", x.compare(2, FLOATS, 3, 3), 1);
        due.is("24 i behind", x.compare(2, FLOATS, 7, 0), INDEX);
        due.is("24 j behind", x.compare(2, FLOATS, 0, 7), INDEX);
        due.is("24 i ahead", x.compare(2, FLOATS, -1, 0), INDEX);
        due.is("24 CAST", x.compare(2, DOUBLES, 0, 7), CAST);
        due.is("24 OUTSIDE", x.compare(0, 3, 0, 0), OUTSIDE);
        due.is("24 UNKNOWN", x.compare(-1, 3, 0, 0), UNKNOWN);
    }

    private static void promise25Sum() {
        SkewPlan x = new SkewPlan();
        due.is("25 missing", x.sum(0, 0), NULL);
        due.is("25 missing, counted", x.sum(0, 1), NULL);
        due.is("25 OUTSIDE ahead of NULL", x.sum(0, 2), OUTSIDE);
        due.is("25 what -1", x.sum(0, -1), OUTSIDE);
        due.is("25 no trace", x.sum(3, 2), UNKNOWN);
        x.trace(0, FLOATS, 0);
        due.is("25 nothing", x.sum(0, 0), 2000000);
        due.is("25 none", x.sum(0, 1), 0);
        x.trace(0, FLOATS, 3);
        x.set(0, FLOATS, 0, 1, 10);
        x.set(0, FLOATS, 1, 1, 5);
        x.set(0, FLOATS, 2, -1, 2);
        due.is("25 floats as doubles", x.sum(0, 0), 1999801);
        x.trace(1, DOUBLES, 8);
        for (int i = 0; i < 8; i++) {
            x.set(1, DOUBLES, i, 100, 1);
        }
        due.is("25 eight hundred", x.sum(1, 0), 2800000);
        x.set(1, DOUBLES, 7, 9999, 1);
        due.is("25 at most", x.sum(1, 0), 3000000);
        x.set(1, DOUBLES, 7, 1, 0);
        due.is("25 no end", x.sum(1, 0), 3000000);
        due.is("25 that is a number", x.sum(1, 1), 0);
        x.set(1, DOUBLES, 3, -1, 0);
        due.is("25 no end either way", x.sum(1, 0), 2000000);
        due.is("25 both are numbers", x.sum(1, 1), 0);
        x.set(1, DOUBLES, 7, -1, 0);
        due.is("25 twice below", x.sum(1, 0), 1000000);
        x.set(1, DOUBLES, 0, 0, 0);
        due.is("25 with no number", x.sum(1, 0), 2000000);
        due.is("25 one", x.sum(1, 1), 1);
        // seven times six sevenths, less six: what rounding leaves depends on the order
        x.trace(2, DOUBLES, 8);
        double together = 0;
        for (int i = 0; i < 8; i++) {
            x.set(2, DOUBLES, i, i == 7 ? -6 : 6, i == 7 ? 1 : 7);
            together += i == 7 ? -6.0 : 6.0 / 7;
        }
        due.is("25 the first one first", x.sum(2, 0), 2000000 + (int) (together * 1000));
    }

    private static void promise26Drop() {
        SkewPlan x = new SkewPlan();
        x.trace(0, FLOATS, 4);
        x.trace(1, DOUBLES, 0);
        due.is("26 four", x.drop(0), 4);
        due.is("26 missing now", x.drop(0), NULL);
        due.is("26 to get", x.get(0, FLOATS, 0), NULL);
        due.is("26 no places", x.drop(1), 0);
        due.is("26 missing too", x.drop(1), NULL);
        due.is("26 no trace 3", x.drop(3), UNKNOWN);
        due.is("26 no trace -1", x.drop(-1), UNKNOWN);
        due.is("26 new again", x.trace(0, DOUBLES, 2), 2);
    }

    private static void promise27Count() {
        SkewPlan x = Due.of("net 6;path 0 1 9 3;path 1 2 9 4;path 5 5 9 2;setup 7;hold 4;step 8;period 321");
        x.trace(0, FLOATS, 3);
        x.trace(1, DOUBLES, 8);
        x.trace(2, FLOATS, 8);
        x.period(123);
        x.write(65);
        counts("27", x, 6, 3, 7, 4, 8, 123, 19, 1, 1, 2);
        x.slower(2, 2);
        due.is("27 one fewer too soon", x.count(9), 1);
        due.is("27 above", x.count(10), OUTSIDE);
        due.is("27 below", x.count(-1), OUTSIDE);
    }

    /** Numbers from anywhere are answered, in a net that is empty and in one that is not. */
    private static void wildNumbersThrowNothing() {
        int[] wild = {LOWEST, -10000, -1, 0, 1, 8, 16, 200, 10000, HIGHEST};
        String[] texts = {"net 2", RING + ";period 30", RING};
        int thrown = 0;
        for (String text : texts) {
            for (int a : wild) {
                SkewPlan x = Due.of(text);
                x.trace(0, FLOATS, 8);
                x.trace(1, DOUBLES, 1);
                for (int b : wild) {
                    try {
                        askWild(x, a, b);
                    } catch (RuntimeException e) {
                        thrown++;
                        System.out.println("thrown by " + a + ", " + b + ": " + e);
                    }
                }
            }
        }
        due.is("nothing is thrown", thrown, 0);
    }

    private static void askWild(SkewPlan x, int a, int b) {
        x.write(a);
        x.fault();
        x.net();
        x.path(a, b);
        x.period(a);
        x.slower(a, b);
        x.keep(a);
        x.back(a);
        x.shift(a);
        x.rate(a);
        x.spare(a, b);
        x.cycle(a);
        x.buffer(a);
        x.trace(a, 1, b);
        x.trace(2, a, b);
        x.set(a, b, a, b, a);
        x.set(0, 0, a, a, b);
        x.set(0, 0, 1, a, b);
        x.get(a, b, a);
        x.get(0, 0, a);
        x.rest(a, b, a, b);
        x.rest(0, 0, a, b);
        x.compare(a, b, a, b);
        x.compare(0, 0, a, b);
        x.sum(a, b);
        x.drop(a == 0 ? 2 : a);
        x.count(a);
        x.margin();
        x.least();
        x.feasible();
        x.undo();
        x.erase();
    }
}
