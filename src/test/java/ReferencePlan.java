import java.util.ArrayDeque;
import java.util.ArrayList;
import java.util.Arrays;
import java.util.Deque;
import java.util.List;
import java.util.regex.Matcher;
import java.util.regex.Pattern;

/**
 * The document once more, slowly and by other means: all pairs' least bounds, scans from one end
 * to the other, rings written out and sorted, and the machine's own floats, remainders and
 * exceptions.
 */
final class ReferencePlan {
    private static final Pattern TOKEN = Pattern.compile("[a-z]+|[0-9]+|[^ ]", Pattern.DOTALL);
    private static final long FAR = Long.MAX_VALUE / 4;

    private static final class State {
        int n = 2;
        int setup;
        int hold;
        int step = 1;
        int period = 99;
        List<int[]> paths = new ArrayList<>();

        State copy() {
            State other = new State();
            other.n = n;
            other.setup = setup;
            other.hold = hold;
            other.step = step;
            other.period = period;
            for (int[] path : paths) {
                other.paths.add(path.clone());
            }
            return other;
        }
    }

    private String text = "";
    private State told = new State();
    private State now = new State();
    private State read;
    private int clauses;
    private final State[] kept = new State[2];
    private final Deque<State> before = new ArrayDeque<>();
    private final Object[] traces = new Object[3];

    int write(int letter) {
        if (letter < 0 || letter > 255) {
            return -3;
        }
        if (text.length() == 200) {
            return -5;
        }
        text += (char) letter;
        return text.length();
    }

    int erase() {
        int had = text.length();
        text = "";
        return had;
    }

    int fault() {
        read = told.copy();
        clauses = 0;
        Matcher token = TOKEN.matcher(text);
        String clause = "";
        int l = 0;
        while (token.find()) {
            String t = token.group();
            boolean isNumber = t.matches("[0-9]{1,3}");
            int number = isNumber ? Integer.parseInt(t) : -1;
            String[] parts = clause.isEmpty() ? new String[0] : clause.split(" ");
            boolean fits;
            if (parts.length == 0) {
                fits = t.matches("net|setup|hold|step|period") || t.equals("path") && read.paths.size() < 16;
            } else if (parts.length == (parts[0].equals("path") ? 5 : 2)) {
                fits = t.equals(";") && clauses < 24;
            } else {
                int low = parts[0].equals("net") ? 2 : parts[0].equals("step") ? 1 : 0;
                int high = switch (parts[0]) {
                    case "net" -> 8;
                    case "period" -> 999;
                    case "path" -> parts.length <= 2 ? read.n - 1 : parts.length == 3 ? 99 : l;
                    default -> 9;
                };
                fits = isNumber && number >= low && number <= high;
                l = number;
            }
            if (!fits) {
                return token.start();
            }
            if (t.equals(";")) {
                clause = "";
                continue;
            }
            clause = clause.isEmpty() ? t : clause + " " + t;
            parts = clause.split(" ");
            if (parts.length == (parts[0].equals("path") ? 5 : 2)) {
                clauses++;
                doClause(parts);
            }
        }
        String[] parts = clause.isEmpty() ? new String[] {""} : clause.split(" ");
        return parts.length == (parts[0].equals("path") ? 5 : 2) ? -1 : text.length();
    }

    private void doClause(String[] parts) {
        int number = Integer.parseInt(parts[1]);
        switch (parts[0]) {
            case "net" -> {
                read = new State();
                read.n = number;
            }
            case "path" -> read.paths.add(new int[] {number, Integer.parseInt(parts[2]), Integer.parseInt(parts[3]), Integer.parseInt(parts[4])});
            case "setup" -> read.setup = number;
            case "hold" -> read.hold = number;
            case "step" -> read.step = number;
            default -> read.period = number;
        }
    }

    int net() {
        if (fault() != -1) {
            return -4;
        }
        told = read;
        now = told.copy();
        before.clear();
        Arrays.fill(kept, null);
        Arrays.fill(traces, null);
        text = "";
        return clauses;
    }

    private boolean isPath(int path) {
        return path >= 0 && path < now.paths.size();
    }

    int path(int path, int what) {
        if (!isPath(path)) {
            return -2;
        }
        if (what < 0 || what > 5) {
            return -3;
        }
        int[] p = now.paths.get(path);
        return what < 4 ? p[what] : 2000 + (what == 4 ? now.period - p[2] - now.setup : p[3] - now.hold);
    }

    private void remember() {
        before.addLast(now.copy());
        if (before.size() > 8) {
            before.removeFirst();
        }
    }

    int period(int t) {
        if (t < 0 || t > 999) {
            return -3;
        }
        if (t == now.period) {
            return -4;
        }
        remember();
        int was = now.period;
        now.period = t;
        return was;
    }

    int slower(int path, int n) {
        if (!isPath(path)) {
            return -2;
        }
        if (n < 1 || n > 20) {
            return -3;
        }
        int[] p = now.paths.get(path);
        if (p[2] + n > 199) {
            return -4;
        }
        remember();
        p[2] += n;
        p[3] += n;
        return p[2];
    }

    int undo() {
        if (before.isEmpty()) {
            return -4;
        }
        now = before.removeLast();
        return before.size();
    }

    int keep(int k) {
        if (k != 0 && k != 1) {
            return -2;
        }
        kept[k] = now.copy();
        return now.period;
    }

    int back(int k) {
        if (k != 0 && k != 1) {
            return -2;
        }
        if (kept[k] == null) {
            return -4;
        }
        now = kept[k].copy();
        before.clear();
        return now.period;
    }

    /** The bounds between each two, in steps. */
    private static long[][] bounds(State s, int period, int margin) {
        long[][] w = new long[s.n][s.n];
        for (long[] row : w) {
            Arrays.fill(row, FAR);
        }
        for (int[] p : s.paths) {
            long late = Math.floorDiv(period - p[2] - s.setup - margin, s.step);
            long soon = Math.floorDiv(p[3] - s.hold - margin, s.step);
            w[p[0]][p[1]] = Math.min(w[p[0]][p[1]], late);
            w[p[1]][p[0]] = Math.min(w[p[1]][p[0]], soon);
        }
        return w;
    }

    /** Each shift, in units, or null. */
    private static long[] shifts(State s, int period, int margin) {
        long[][] d = bounds(s, period, margin);
        for (int a = 0; a < s.n; a++) {
            d[a][a] = Math.min(d[a][a], 0);
        }
        for (int k = 0; k < s.n; k++) {
            for (int a = 0; a < s.n; a++) {
                for (int b = 0; b < s.n; b++) {
                    if (d[a][k] < FAR && d[k][b] < FAR) {
                        d[a][b] = Math.min(d[a][b], d[a][k] + d[k][b]);
                    }
                }
            }
        }
        long[] shifts = new long[s.n];
        for (int a = 0; a < s.n; a++) {
            if (d[a][a] < 0) {
                return null;
            }
            shifts[a] = Arrays.stream(d[a]).min().orElseThrow() * s.step;
        }
        return shifts;
    }

    int feasible() {
        return shifts(now, now.period, 0) == null ? 0 : 1;
    }

    int shift(int register) {
        if (register < 0 || register >= now.n) {
            return -2;
        }
        long[] shifts = shifts(now, now.period, 0);
        return shifts == null ? -4 : (int) -shifts[register];
    }

    private static int least(State s) {
        for (int t = 0; t <= 999; t++) {
            if (shifts(s, t, 0) != null) {
                return t;
            }
        }
        return -1;
    }

    int least() {
        return least(now);
    }

    private long rateAbove;
    private long rateBelow;

    int rate(int part) {
        if (part != 0 && part != 1) {
            return -3;
        }
        rateAbove = 0;
        rateBelow = 1;
        for (int first = 0; first < now.n; first++) {
            if (!walk(first, first, 1 << first, 0, 0)) {
                return -1;
            }
        }
        long common = 1;
        for (long c = 1; c <= rateBelow; c++) {
            if (rateAbove % c == 0 && rateBelow % c == 0) {
                common = c;
            }
        }
        return (int) ((part == 0 ? rateAbove : rateBelow) / common);
    }

    /** Every ring by every bound, its late ones counted: what period it asks for. */
    private boolean walk(int first, int at, int seen, int lates, long together) {
        for (int[] p : now.paths) {
            for (int late = 0; late <= 1; late++) {
                int a = late == 1 ? p[0] : p[1];
                int b = late == 1 ? p[1] : p[0];
                if (a != at || b < first) {
                    continue;
                }
                long sum = together + (late == 1 ? -p[2] - now.setup : p[3] - now.hold);
                int count = lates + late;
                if (b == first) {
                    if (count == 0 && sum < 0) {
                        return false;
                    }
                    if (count > 0 && -sum * rateBelow > rateAbove * count) {
                        rateAbove = -sum;
                        rateBelow = count;
                    }
                } else if ((seen >> b & 1) == 0 && !walk(first, b, seen | 1 << b, count, sum)) {
                    return false;
                }
            }
        }
        return true;
    }

    int margin() {
        for (int m = 1200; m >= -1200; m--) {
            if (shifts(now, now.period, m) != null) {
                return m + 2000;
            }
        }
        throw new IllegalStateException();
    }

    int spare(int path, int what) {
        if (!isPath(path)) {
            return -2;
        }
        if (what != 0 && what != 1) {
            return -3;
        }
        long[] s = shifts(now, now.period, 0);
        if (s == null) {
            return -4;
        }
        int[] p = now.paths.get(path);
        return (int) (what == 0 ? now.period - p[2] - now.setup - (s[p[0]] - s[p[1]]) : p[3] - now.hold - (s[p[1]] - s[p[0]]));
    }

    int cycle(int k) {
        if (k < 0) {
            return -3;
        }
        List<String> rings = new ArrayList<>();
        long[][] w = bounds(now, now.period, 0);
        for (int first = 0; first < now.n; first++) {
            collect(w, String.valueOf(first), 0, rings);
        }
        if (rings.isEmpty()) {
            return -1;
        }
        String ring = rings.stream().sorted().findFirst().orElseThrow();
        return k < ring.length() ? ring.charAt(k) - '0' : -1;
    }

    private static void collect(long[][] w, String ring, long together, List<String> rings) {
        int first = ring.charAt(0) - '0';
        int last = ring.charAt(ring.length() - 1) - '0';
        if (w[last][first] < FAR && together + w[last][first] < 0) {
            rings.add(ring);
        }
        for (int next = w.length - 1; next > first; next--) {
            if (w[last][next] < FAR && ring.indexOf('0' + next) < 0) {
                collect(w, ring + next, together + w[last][next], rings);
            }
        }
    }

    int buffer(int n) {
        if (n < 1 || n > 20) {
            return -3;
        }
        int best = -1;
        int bestLeast = least(now) == -1 ? 1000 : least(now);
        for (int path = 0; path < now.paths.size(); path++) {
            State s = now.copy();
            int[] p = s.paths.get(path);
            p[2] += n;
            p[3] += n;
            int least = least(s);
            if (p[2] <= 199 && least != -1 && least < bestLeast) {
                best = path;
                bestLeast = least;
            }
        }
        return best;
    }

    private static int thousand(double times) {
        return Double.isNaN(times) ? 2000000 : 2000000 + Math.max(-1000000, Math.min(1000000, (int) times));
    }

    private static int refusal(int trace, boolean isOutside) {
        return trace < 0 || trace > 2 ? -2 : isOutside ? -3 : 0;
    }

    private static boolean isNoSort(int sort) {
        return sort != 0 && sort != 1;
    }

    private interface Deed {
        int done();
    }

    private static int machine(Deed deed) {
        try {
            return deed.done();
        } catch (NullPointerException e) {
            return -11;
        } catch (NegativeArraySizeException e) {
            return -12;
        } catch (ClassCastException e) {
            return -13;
        } catch (IndexOutOfBoundsException e) {
            return -14;
        }
    }

    private float[] floats(int trace) {
        traces[trace].getClass();
        return (float[]) traces[trace];
    }

    private double[] doubles(int trace) {
        traces[trace].getClass();
        return (double[]) traces[trace];
    }

    int trace(int trace, int sort, int n) {
        int refusal = refusal(trace, isNoSort(sort) || n > 8);
        return refusal != 0 ? refusal : machine(() -> {
            traces[trace] = sort == 0 ? new float[n] : new double[n];
            return n;
        });
    }

    int set(int trace, int sort, int i, int a, int b) {
        int refusal = refusal(trace, isNoSort(sort) || Math.abs((long) a) > 9999 || Math.abs((long) b) > 9999);
        return refusal != 0 ? refusal : machine(() -> {
            if (sort == 0) {
                floats(trace)[i] = (float) a / b;
            } else {
                doubles(trace)[i] = (double) a / b;
            }
            return get(trace, sort, i);
        });
    }

    int get(int trace, int sort, int i) {
        int refusal = refusal(trace, isNoSort(sort));
        return refusal != 0 ? refusal : machine(() -> thousand(sort == 0 ? floats(trace)[i] * 1000f : doubles(trace)[i] * 1000));
    }

    int rest(int trace, int sort, int i, int j) {
        int refusal = refusal(trace, isNoSort(sort));
        return refusal != 0 ? refusal : machine(() -> {
            if (sort == 0) {
                floats(trace)[i] = floats(trace)[i] % floats(trace)[j];
            } else {
                doubles(trace)[i] = doubles(trace)[i] % doubles(trace)[j];
            }
            return get(trace, sort, i);
        });
    }

    int compare(int trace, int sort, int i, int j) {
        int refusal = refusal(trace, isNoSort(sort));
        return refusal != 0 ? refusal : machine(() -> {
            if (sort == 0) {
                float a = floats(trace)[i];
                float b = floats(trace)[j];
                return a < b ? 2 : a == b ? 1 : 0;
            }
            double a = doubles(trace)[i];
            double b = doubles(trace)[j];
            return a < b ? 2 : a == b ? 1 : 0;
        });
    }

    int sum(int trace, int what) {
        int refusal = refusal(trace, what != 0 && what != 1);
        return refusal != 0 ? refusal : machine(() -> {
            double together = 0;
            int nans = 0;
            int length = java.lang.reflect.Array.getLength(traces[trace]);
            for (int i = 0; i < length; i++) {
                double value = java.lang.reflect.Array.getDouble(traces[trace], i);
                together += value;
                nans += Double.isNaN(value) ? 1 : 0;
            }
            return what == 0 ? thousand(together * 1000) : nans;
        });
    }

    int drop(int trace) {
        int refusal = refusal(trace, false);
        return refusal != 0 ? refusal : machine(() -> {
            int length = java.lang.reflect.Array.getLength(traces[trace]);
            traces[trace] = null;
            return length;
        });
    }

    int count(int what) {
        int places = 0;
        for (Object trace : traces) {
            places += trace == null ? 0 : java.lang.reflect.Array.getLength(trace);
        }
        return switch (what) {
            case 0 -> now.n;
            case 1 -> now.paths.size();
            case 2 -> now.setup;
            case 3 -> now.hold;
            case 4 -> now.step;
            case 5 -> now.period;
            case 6 -> places;
            case 7 -> before.size();
            case 8 -> text.length();
            case 9 -> (int) now.paths.stream().filter(p -> p[3] < now.hold).count();
            default -> -3;
        };
    }
}
