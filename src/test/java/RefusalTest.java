import java.util.ArrayList;
import java.util.LinkedHashMap;
import java.util.List;
import java.util.Map;

/**
 * "Refused, and nothing changes", "FORETOLD (nothing changes)" and the order of refusals: of two
 * objects that are told and done the same, one is asked once more; both answer all else the same.
 */
public final class RefusalTest {
    private static final int NONE = SkewPlan.NONE, UNKNOWN = SkewPlan.UNKNOWN, OUTSIDE = SkewPlan.OUTSIDE, NOT = SkewPlan.NOT,
            FULL = SkewPlan.FULL, NULL = SkewPlan.NULL, SIZE = SkewPlan.SIZE, CAST = SkewPlan.CAST, INDEX = SkewPlan.INDEX;

    private static final Due due = new Due();

    private interface Call {
        int ask(SkewPlan x);
    }

    private interface Start {
        SkewPlan make();
    }

    public static void main(String[] args) {
        refusedWhereAllIsFeasible();
        refusedWhereNothingIs();
        refusedAtFirst();
        foretold();
        questions();
        firstThatFits();
        constants();
        due.end();
    }

    /** Feasible, with a text that has a fault, one net kept, two calls to undo, traces of either sort and one missing. */
    private static SkewPlan feasiblePlan() {
        SkewPlan x = Due.of("net 3;path 0 1 60 50;path 1 2 30 20;path 2 0 20 10;setup 1;hold 2;step 2");
        x.period(60);
        x.keep(0);
        x.slower(1, 4);
        x.trace(0, 0, 3);
        x.trace(1, 1, 2);
        x.set(0, 0, 0, 22, 7);
        x.set(0, 0, 1, 0, 0);
        x.set(0, 0, 2, -1, 0);
        x.set(1, 1, 0, 2, 3);
        x.set(1, 1, 1, -9999, 8);
        Due.write(x, "hold 3;skew");
        return x;
    }

    /** Not feasible, with a text that is full and has no fault, eight calls to undo, a path as slow as can be. */
    private static SkewPlan hardPlan() {
        SkewPlan x = Due.of("path 0 1 99 60;path 1 0 50 3;hold 5");
        x.keep(1);
        for (int i = 0; i < 5; i++) {
            x.slower(0, 20);
        }
        x.period(30);
        x.period(31);
        x.slower(1, 1);
        x.slower(1, 2);
        x.trace(2, 0, 0);
        Due.write(x, "period 7" + " ".repeat(192));
        return x;
    }

    /** All that an object tells, what can only be found by doing at the end. */
    private static List<Integer> all(SkewPlan x) {
        List<Integer> answers = new ArrayList<>();
        addNet(answers, x);
        answers.add(x.fault());
        answers.add(x.feasible());
        answers.add(x.least());
        answers.add(x.rate(0));
        answers.add(x.rate(1));
        answers.add(x.margin());
        answers.add(x.buffer(5));
        for (int k = 0; k < 3; k++) {
            answers.add(x.shift(k));
            answers.add(x.spare(k, 0));
            answers.add(x.spare(k, 1));
            answers.add(x.cycle(k));
        }
        for (int trace = 0; trace <= 2; trace++) {
            answers.add(x.sum(trace, 0));
            answers.add(x.sum(trace, 1));
            for (int i = 0; i < 3; i++) {
                answers.add(x.get(trace, 0, i));
                answers.add(x.get(trace, 1, i));
            }
        }
        for (int i = 0; i < 9; i++) {
            answers.add(x.undo());
            answers.add(x.count(5));
            answers.add(x.path(0, 2));
            answers.add(x.path(1, 3));
        }
        for (int k = 0; k <= 1; k++) {
            answers.add(x.back(k));
            addNet(answers, x);
        }
        answers.add(x.write('a'));
        answers.add(x.fault());
        answers.add(x.net());
        addNet(answers, x);
        answers.add(Due.tell(x, "step 3"));
        addNet(answers, x);
        return answers;
    }

    private static void addNet(List<Integer> answers, SkewPlan x) {
        for (int what = 0; what <= 9; what++) {
            answers.add(x.count(what));
        }
        for (int path = 0; path < 3; path++) {
            for (int what = 0; what <= 5; what++) {
                answers.add(x.path(path, what));
            }
        }
    }

    private static void changesNothing(String name, Start start, Call call) {
        SkewPlan asked = start.make();
        SkewPlan other = start.make();
        call.ask(asked);
        List<Integer> got = all(asked);
        List<Integer> want = all(other);
        int differences = 0;
        for (int i = 0; i < want.size(); i++) {
            differences += got.get(i).equals(want.get(i)) ? 0 : 1;
        }
        due.is("answers that differ behind " + name, differences, 0);
    }

    private static void refused(Start start, Map<String, Call> calls, int... wanted) {
        int i = 0;
        for (Map.Entry<String, Call> call : calls.entrySet()) {
            due.is(call.getKey(), call.getValue().ask(start.make()), wanted[i]);
            changesNothing(call.getKey(), start, call.getValue());
            i++;
        }
        due.is("as many calls as answers", i, wanted.length);
    }

    private static void refusedWhereAllIsFeasible() {
        Start start = RefusalTest::feasiblePlan;
        due.words("Terms", "Refused, and nothing changes: UNKNOWN");
        Map<String, Call> calls = new LinkedHashMap<>();
        calls.put("path(3, 0)", x -> x.path(3, 0));
        calls.put("slower(3, 1)", x -> x.slower(3, 1));
        calls.put("slower(-1, 1)", x -> x.slower(-1, 1));
        calls.put("keep(2)", x -> x.keep(2));
        calls.put("keep(-1)", x -> x.keep(-1));
        calls.put("back(2)", x -> x.back(2));
        calls.put("shift(3)", x -> x.shift(3));
        calls.put("spare(3, 0)", x -> x.spare(3, 0));
        calls.put("trace(3, 0, 1)", x -> x.trace(3, 0, 1));
        calls.put("trace(-1, 0, 1)", x -> x.trace(-1, 0, 1));
        calls.put("set(3, 0, 0, 1, 1)", x -> x.set(3, 0, 0, 1, 1));
        calls.put("get(3, 0, 0)", x -> x.get(3, 0, 0));
        calls.put("rest(3, 0, 0, 0)", x -> x.rest(3, 0, 0, 0));
        calls.put("compare(3, 0, 0, 0)", x -> x.compare(3, 0, 0, 0));
        calls.put("sum(3, 0)", x -> x.sum(3, 0));
        calls.put("drop(3)", x -> x.drop(3));
        refused(start, calls, UNKNOWN, UNKNOWN, UNKNOWN, UNKNOWN, UNKNOWN, UNKNOWN, UNKNOWN, UNKNOWN,
                UNKNOWN, UNKNOWN, UNKNOWN, UNKNOWN, UNKNOWN, UNKNOWN, UNKNOWN, UNKNOWN);
        due.words("Terms", "Refused, and nothing changes: OUTSIDE");
        calls.clear();
        calls.put("write(256)", x -> x.write(256));
        calls.put("write(-1)", x -> x.write(-1));
        calls.put("path(0, 6)", x -> x.path(0, 6));
        calls.put("period(-1)", x -> x.period(-1));
        calls.put("period(1000)", x -> x.period(1000));
        calls.put("slower(0, 0)", x -> x.slower(0, 0));
        calls.put("slower(0, 21)", x -> x.slower(0, 21));
        calls.put("rate(2)", x -> x.rate(2));
        calls.put("spare(0, 2)", x -> x.spare(0, 2));
        calls.put("cycle(-1)", x -> x.cycle(-1));
        calls.put("buffer(0)", x -> x.buffer(0));
        calls.put("buffer(21)", x -> x.buffer(21));
        calls.put("trace(0, 2, 1)", x -> x.trace(0, 2, 1));
        calls.put("trace(0, 0, 9)", x -> x.trace(0, 0, 9));
        calls.put("set(0, 2, 0, 1, 1)", x -> x.set(0, 2, 0, 1, 1));
        calls.put("set(0, 0, 0, 10000, 1)", x -> x.set(0, 0, 0, 10000, 1));
        calls.put("set(0, 0, 0, 1, -10000)", x -> x.set(0, 0, 0, 1, -10000));
        calls.put("get(0, 2, 0)", x -> x.get(0, 2, 0));
        calls.put("rest(0, 2, 0, 0)", x -> x.rest(0, 2, 0, 0));
        calls.put("compare(0, 2, 0, 0)", x -> x.compare(0, 2, 0, 0));
        calls.put("sum(0, 2)", x -> x.sum(0, 2));
        calls.put("count(10)", x -> x.count(10));
        refused(start, calls, OUTSIDE, OUTSIDE, OUTSIDE, OUTSIDE, OUTSIDE, OUTSIDE, OUTSIDE, OUTSIDE, OUTSIDE, OUTSIDE, OUTSIDE,
                OUTSIDE, OUTSIDE, OUTSIDE, OUTSIDE, OUTSIDE, OUTSIDE, OUTSIDE, OUTSIDE, OUTSIDE, OUTSIDE, OUTSIDE);
        due.words("Terms", "Refused, and nothing changes: NOT (not now: as told)");
        calls.clear();
        calls.put("net()", x -> x.net());
        calls.put("period(60)", x -> x.period(60));
        calls.put("back(1)", x -> x.back(1));
        refused(start, calls, NOT, NOT, NOT);
        due.words("Terms", "What the machine finds is answered ..; it changes nothing");
        calls.clear();
        calls.put("trace(0, 0, -1)", x -> x.trace(0, 0, -1));
        calls.put("trace(2, 1, -1)", x -> x.trace(2, 1, -1));
        calls.put("set(2, 0, 0, 1, 1)", x -> x.set(2, 0, 0, 1, 1));
        calls.put("rest(2, 0, 0, 0)", x -> x.rest(2, 0, 0, 0));
        calls.put("drop(2)", x -> x.drop(2));
        calls.put("set(0, 1, 0, 1, 1)", x -> x.set(0, 1, 0, 1, 1));
        calls.put("rest(1, 0, 0, 1)", x -> x.rest(1, 0, 0, 1));
        calls.put("set(0, 0, 3, 1, 1)", x -> x.set(0, 0, 3, 1, 1));
        calls.put("set(1, 1, -1, 1, 1)", x -> x.set(1, 1, -1, 1, 1));
        calls.put("rest(0, 0, 0, 3)", x -> x.rest(0, 0, 0, 3));
        calls.put("rest(1, 1, 2, 0)", x -> x.rest(1, 1, 2, 0));
        refused(start, calls, SIZE, SIZE, NULL, NULL, NULL, CAST, CAST, INDEX, INDEX, INDEX, INDEX);
    }

    private static void refusedWhereNothingIs() {
        due.words("Terms", "Refused, and nothing changes: NOT, FULL, where it is not FEASIBLE");
        Map<String, Call> calls = new LinkedHashMap<>();
        calls.put("write('a')", x -> x.write('a'));
        calls.put("write(256)", x -> x.write(256));
        calls.put("slower(0, 1)", x -> x.slower(0, 1));
        calls.put("slower(0, 20)", x -> x.slower(0, 20));
        calls.put("shift(0)", x -> x.shift(0));
        calls.put("shift(2)", x -> x.shift(2));
        calls.put("spare(0, 0)", x -> x.spare(0, 0));
        calls.put("spare(2, 0)", x -> x.spare(2, 0));
        calls.put("back(0)", x -> x.back(0));
        calls.put("get(2, 0, 0)", x -> x.get(2, 0, 0));
        calls.put("set(2, 0, 0, 1, 1)", x -> x.set(2, 0, 0, 1, 1));
        refused(RefusalTest::hardPlan, calls, FULL, OUTSIDE, NOT, NOT, NOT, UNKNOWN, NOT, UNKNOWN, NOT, INDEX, INDEX);
    }

    private static void refusedAtFirst() {
        due.words("Terms", "Refused, and nothing changes: where nothing is told yet");
        Map<String, Call> calls = new LinkedHashMap<>();
        calls.put("net()", x -> x.net());
        calls.put("undo()", x -> x.undo());
        calls.put("period(99)", x -> x.period(99));
        calls.put("slower(0, 1)", x -> x.slower(0, 1));
        calls.put("back(0)", x -> x.back(0));
        calls.put("back(1)", x -> x.back(1));
        calls.put("drop(0)", x -> x.drop(0));
        refused(SkewPlan::new, calls, NOT, NOT, NOT, UNKNOWN, NOT, NOT, NULL);
    }

    private static void foretold() {
        due.words("Terms", "FORETOLD (nothing changes)");
        Map<String, Call> calls = new LinkedHashMap<>();
        calls.put("feasible()", x -> x.feasible());
        calls.put("shift(0)", x -> x.shift(0));
        calls.put("least()", x -> x.least());
        calls.put("rate(0)", x -> x.rate(0));
        calls.put("rate(1)", x -> x.rate(1));
        calls.put("margin()", x -> x.margin());
        calls.put("spare(0, 0)", x -> x.spare(0, 0));
        calls.put("spare(1, 1)", x -> x.spare(1, 1));
        calls.put("cycle(0)", x -> x.cycle(0));
        calls.put("buffer(1)", x -> x.buffer(1));
        calls.put("buffer(20)", x -> x.buffer(20));
        for (Map.Entry<String, Call> call : calls.entrySet()) {
            changesNothing(call.getKey() + " where it is feasible", RefusalTest::feasiblePlan, call.getValue());
            changesNothing(call.getKey() + " where it is not", RefusalTest::hardPlan, call.getValue());
            changesNothing(call.getKey() + " at first", SkewPlan::new, call.getValue());
        }
    }

    private static void questions() {
        due.words("Promises 4, 6, 22, 24, 25, 27", "what only asks");
        Map<String, Call> calls = new LinkedHashMap<>();
        calls.put("fault()", x -> x.fault());
        calls.put("path(0, 4)", x -> x.path(0, 4));
        calls.put("get(0, 0, 1)", x -> x.get(0, 0, 1));
        calls.put("compare(0, 0, 1, 2)", x -> x.compare(0, 0, 1, 2));
        calls.put("sum(0, 0)", x -> x.sum(0, 0));
        calls.put("sum(1, 1)", x -> x.sum(1, 1));
        calls.put("count(9)", x -> x.count(9));
        for (Map.Entry<String, Call> call : calls.entrySet()) {
            changesNothing(call.getKey(), RefusalTest::feasiblePlan, call.getValue());
            changesNothing(call.getKey() + " where it is not feasible", RefusalTest::hardPlan, call.getValue());
        }
    }

    /** Each call in every state that gives it several reasons to refuse. */
    private static void firstThatFits() {
        due.words("Terms", "UNKNOWN, OUTSIDE, NOT, FULL, then what the machine finds: the first of these that fits");
        SkewPlan hard = hardPlan();
        SkewPlan fine = feasiblePlan();
        due.is("write: OUTSIDE, FULL", hard.write(256), OUTSIDE);
        due.is("path: UNKNOWN, OUTSIDE", fine.path(3, 6), UNKNOWN);
        due.is("slower: UNKNOWN, OUTSIDE", fine.slower(3, 0), UNKNOWN);
        due.is("slower: OUTSIDE, NOT", hard.slower(0, 21), OUTSIDE);
        due.is("back: UNKNOWN, NOT", hard.back(2), UNKNOWN);
        due.is("shift: UNKNOWN, NOT", hard.shift(2), UNKNOWN);
        due.is("spare: UNKNOWN, OUTSIDE, NOT", hard.spare(2, 2), UNKNOWN);
        due.is("spare: UNKNOWN, NOT", hard.spare(2, 0), UNKNOWN);
        due.is("spare: OUTSIDE, NOT", hard.spare(0, 2), OUTSIDE);
        due.is("rate: OUTSIDE where there is none", Due.of("path 0 0 9 3;hold 4").rate(2), OUTSIDE);
        due.is("trace: UNKNOWN, OUTSIDE", fine.trace(3, 2, 9), UNKNOWN);
        due.is("trace: UNKNOWN, SIZE", fine.trace(3, 0, -1), UNKNOWN);
        due.is("trace: OUTSIDE, SIZE", fine.trace(0, 2, -1), OUTSIDE);
        due.is("set: UNKNOWN, OUTSIDE", fine.set(3, 2, 0, 10000, 0), UNKNOWN);
        due.is("set: OUTSIDE, NULL", fine.set(2, 0, 0, 10000, 0), OUTSIDE);
        due.is("set: OUTSIDE, CAST", fine.set(0, 1, 0, 10000, 0), OUTSIDE);
        due.is("set: OUTSIDE, INDEX", fine.set(0, 0, 9, 0, 10000), OUTSIDE);
        due.is("set: NULL, INDEX", fine.set(2, 0, 9, 0, 0), NULL);
        due.is("set: CAST, INDEX", fine.set(0, 1, 9, 0, 0), CAST);
        due.is("get: UNKNOWN, OUTSIDE", fine.get(3, 2, 0), UNKNOWN);
        due.is("get: OUTSIDE, NULL", fine.get(2, 2, 0), OUTSIDE);
        due.is("get: OUTSIDE, INDEX", fine.get(0, 2, 9), OUTSIDE);
        due.is("get: NULL, INDEX", fine.get(2, 0, 9), NULL);
        due.is("get: CAST, INDEX", fine.get(0, 1, 9), CAST);
        due.is("rest: OUTSIDE, NULL", fine.rest(2, 2, 0, 0), OUTSIDE);
        due.is("rest: NULL, INDEX", fine.rest(2, 0, 9, 0), NULL);
        due.is("rest: CAST, INDEX", fine.rest(0, 1, 0, 9), CAST);
        due.is("compare: OUTSIDE, NULL", fine.compare(2, 2, 0, 0), OUTSIDE);
        due.is("compare: NULL, INDEX", fine.compare(2, 0, 0, 9), NULL);
        due.is("compare: CAST, INDEX", fine.compare(0, 1, 9, 0), CAST);
        due.is("sum: UNKNOWN, OUTSIDE", fine.sum(3, 2), UNKNOWN);
        due.is("sum: OUTSIDE, NULL", fine.sum(2, 2), OUTSIDE);
    }

    private static void constants() {
        due.words("The public face", "NONE = -1, UNKNOWN = -2, OUTSIDE = -3, NOT = -4, FULL = -5, NULL = -11, SIZE = -12, CAST = -13, INDEX = -14");
        int[] constants = {NONE, UNKNOWN, OUTSIDE, NOT, FULL, NULL, SIZE, CAST, INDEX};
        int[] wanted = {-1, -2, -3, -4, -5, -11, -12, -13, -14};
        for (int i = 0; i < wanted.length; i++) {
            due.is("constant " + i, constants[i], wanted[i]);
        }
    }
}
