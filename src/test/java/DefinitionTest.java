import java.util.Arrays;
import java.util.Random;

/**
 * Small nets, drawn by a fixed seed, whose shifts are tried one by one as the document defines them:
 * no least bounds, no search, so that what the class and the reference have in common is not trusted.
 */
public final class DefinitionTest {
    private static final int NETS = 400;
    /** Bounds here are small: no shift need be as far below 0 as this many steps. */
    private static final int MOST_STEPS = 26;
    private static final int MOST_PERIOD = 26;
    private static final int MOST_MARGIN = 10;

    private static final Due due = new Due();

    private final Random random;
    private final int registers;
    private final int setup;
    private final int hold;
    private final int step;
    private final int period;
    private final int[][] paths;

    private DefinitionTest(int seed) {
        random = new Random(seed);
        registers = 2 + random.nextInt(2);
        setup = random.nextInt(3);
        hold = random.nextInt(4);
        step = 1 + random.nextInt(4);
        period = random.nextInt(12);
        paths = new int[1 + random.nextInt(4)][];
        for (int path = 0; path < paths.length; path++) {
            int longest = random.nextInt(7);
            paths[path] = new int[] {random.nextInt(registers), random.nextInt(registers), longest, random.nextInt(longest + 1)};
        }
    }

    public static void main(String[] args) {
        int feasible = 0;
        int buffered = 0;
        for (int seed = 1; seed <= NETS; seed++) {
            DefinitionTest net = new DefinitionTest(seed);
            SkewPlan x = Due.of(net.text());
            feasible += net.asksShifts(x) ? 1 : 0;
            net.asksMargin(x);
            buffered += net.asksLeastAndBuffer(x) ? 1 : 0;
        }
        // both answers of each kind have to come about, or nothing was shown
        due.is("nets with and without shifts", feasible > NETS / 10 && feasible < NETS - NETS / 10 ? 1 : 0, 1);
        due.is("nets with and without a buffer", buffered > NETS / 10 && buffered < NETS - NETS / 10 ? 1 : 0, 1);
        due.end();
    }

    private String text() {
        StringBuilder text = new StringBuilder("net " + registers + ";setup " + setup + ";hold " + hold
                + ";step " + step + ";period " + period);
        for (int[] path : paths) {
            text.append(";path ").append(path[0]).append(' ').append(path[1]).append(' ').append(path[2]).append(' ').append(path[3]);
        }
        return text.toString();
    }

    private boolean holds(int[] shifts, int t, int m) {
        for (int[] path : paths) {
            int apart = shifts[path[0]] - shifts[path[1]];
            if (apart > t - path[2] - setup - m || -apart > path[3] - hold - m) {
                return false;
            }
        }
        return true;
    }

    /** The first of all shifts from 0 downward that hold, the last register's changing least often; null. */
    private int[] anyShifts(int t, int m) {
        int[] shifts = new int[registers];
        int all = (int) Math.pow(MOST_STEPS + 1, registers);
        for (int one = 0; one < all; one++) {
            spread(one, shifts);
            if (holds(shifts, t, m)) {
                return shifts;
            }
        }
        return null;
    }

    private void spread(int one, int[] shifts) {
        int rest = one;
        for (int register = 0; register < registers; register++) {
            shifts[register] = -(rest % (MOST_STEPS + 1)) * step;
            rest /= MOST_STEPS + 1;
        }
    }

    /** Of each register the greatest shift that it has in any that hold; null. */
    private int[] greatestShifts() {
        int[] greatest = null;
        int[] shifts = new int[registers];
        int all = (int) Math.pow(MOST_STEPS + 1, registers);
        for (int one = 0; one < all; one++) {
            spread(one, shifts);
            if (!holds(shifts, period, 0)) {
                continue;
            }
            if (greatest == null) {
                greatest = shifts.clone();
            }
            for (int register = 0; register < registers; register++) {
                greatest[register] = Math.max(greatest[register], shifts[register]);
            }
        }
        return greatest;
    }

    private boolean asksShifts(SkewPlan x) {
        int[] shifts = greatestShifts();
        boolean isFeasible = shifts != null;
        due.is(text() + ": feasible()", x.feasible(), isFeasible ? 1 : 0);
        due.is(text() + ": cycle(0) is NONE", x.cycle(0) == SkewPlan.NONE ? 1 : 0, isFeasible ? 1 : 0);
        for (int register = 0; register < registers; register++) {
            due.is(text() + ": shift(" + register + ")", x.shift(register), isFeasible ? -shifts[register] : SkewPlan.NOT);
        }
        for (int path = 0; path < paths.length; path++) {
            int[] p = paths[path];
            int apart = isFeasible ? shifts[p[0]] - shifts[p[1]] : 0;
            due.is(text() + ": spare(" + path + ", 0)", x.spare(path, 0), isFeasible ? period - p[2] - setup - apart : SkewPlan.NOT);
            due.is(text() + ": spare(" + path + ", 1)", x.spare(path, 1), isFeasible ? p[3] - hold + apart : SkewPlan.NOT);
        }
        return isFeasible;
    }

    private void asksMargin(SkewPlan x) {
        int margin = MOST_MARGIN;
        while (anyShifts(period, margin) == null) {
            margin--;
        }
        due.is(text() + ": margin()", x.margin(), 2000 + margin);
    }

    private int leastPeriod() {
        for (int t = 0; t <= MOST_PERIOD; t++) {
            if (anyShifts(t, 0) != null) {
                return t;
            }
        }
        return SkewPlan.NONE;
    }

    private boolean asksLeastAndBuffer(SkewPlan x) {
        int least = leastPeriod();
        due.is(text() + ": least()", x.least(), least);
        int n = 1 + random.nextInt(5);
        int best = SkewPlan.NONE;
        int bestLeast = least == SkewPlan.NONE ? MOST_PERIOD + 1 : least;
        for (int path = 0; path < paths.length; path++) {
            int[] before = paths[path];
            paths[path] = new int[] {before[0], before[1], before[2] + n, before[3] + n};
            int slowerLeast = leastPeriod();
            paths[path] = before;
            if (slowerLeast != SkewPlan.NONE && slowerLeast < bestLeast) {
                best = path;
                bestLeast = slowerLeast;
            }
        }
        due.is(text() + " " + Arrays.deepToString(paths) + ": buffer(" + n + ")", x.buffer(n), best);
        return best != SkewPlan.NONE;
    }
}
