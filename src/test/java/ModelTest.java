import java.lang.reflect.Method;
import java.util.ArrayList;
import java.util.Arrays;
import java.util.List;
import java.util.Random;

/** Runs of calls, drawn by a fixed seed, on SkewPlan and on ReferencePlan: the answers are the same. */
public final class ModelTest {
    private static final int RUNS = 1500;
    /** What an object answers to later calls is free. */
    private static final int MOST_CALLS = 512;

    private static final Due due = new Due();
    private static int told;

    private final Random random;
    private final int run;
    private final SkewPlan x = new SkewPlan();
    private final ReferencePlan y = new ReferencePlan();
    /** Rate and cycle by the reference are slow where many paths are: there they are asked less. */
    private int paths;
    private int calls;

    private ModelTest(int run) {
        this.run = run;
        this.random = new Random(run);
    }

    public static void main(String[] args) throws ReflectiveOperationException {
        for (int run = 1; run <= RUNS; run++) {
            new ModelTest(run).go();
        }
        System.out.println(told + " texts told");
        due.end();
    }

    private void go() throws ReflectiveOperationException {
        while (calls < MOST_CALLS) {
            int choice = random.nextInt(100);
            if (choice < 4 || calls == 0) {
                tellText();
            } else if (choice < 8) {
                sweep();
            } else if (choice < 12 && paths > 0) {
                ask("period", pick(0, 1, 29, 60, 98, 99, 100, 150, 998, 999));
            } else {
                askAny();
            }
        }
    }

    private void tellText() throws ReflectiveOperationException {
        String text = random.nextInt(3) == 0 ? spoil(validText()) : validText();
        if (random.nextInt(4) != 0) {
            ask("erase");
        }
        for (int i = 0; i < text.length(); i++) {
            ask("write", text.charAt(i));
        }
        ask("fault");
        if (ask("net") > 0) {
            told++;
        }
        paths = y.count(1);
        if (random.nextBoolean()) {
            askNet();
        }
    }

    private void askNet() throws ReflectiveOperationException {
        for (int what = 0; what <= 9; what++) {
            ask("count", what);
        }
        for (int path = 0; path < paths; path++) {
            for (int what = 0; what <= 5; what++) {
                ask("path", path, what);
            }
        }
    }

    /** All that is foretold, once. */
    private void sweep() throws ReflectiveOperationException {
        ask("feasible");
        for (int register = 0; register < 8; register++) {
            ask("shift", register);
        }
        ask("least");
        ask("margin");
        ask("rate", 0);
        ask("rate", 1);
        for (int path = 0; path < paths; path++) {
            ask("spare", path, 0);
            ask("spare", path, 1);
        }
        for (int k = 0; k < 3; k++) {
            ask("cycle", k);
        }
        ask("cycle", random.nextInt(9));
        if (random.nextInt(4) == 0) {
            ask("buffer", 1 + random.nextInt(20));
        }
    }

    private void askAny() throws ReflectiveOperationException {
        switch (random.nextInt(26)) {
            case 0 -> ask("write", pick(-1, 0, 32, 59, 97, 255, 256));
            case 1 -> ask("fault");
            case 2 -> ask("path", number(-1, 17), number(-1, 6));
            case 3 -> ask("period", number(-1, 1000));
            case 4, 5, 6, 7 -> ask("slower", number(-1, paths), pick(0, 1, 2, 5, 13, 20, 20, 21));
            case 8, 9 -> ask("undo");
            case 10 -> ask("keep", number(-1, 2));
            case 11 -> ask("back", number(-1, 2));
            case 12 -> ask("shift", number(-1, 8));
            case 13 -> ask("rate", number(-1, 2));
            case 14 -> ask("spare", number(-1, 16), number(-1, 2));
            case 15 -> ask("cycle", number(-1, 9));
            case 16 -> ask("count", number(-1, 10));
            case 17 -> ask("trace", number(-1, 3), number(-1, 2), pick(-1, 0, 1, 5, 8, 8, 8, 9));
            case 18, 19, 20 -> ask("set", number(0, 3), number(-1, 2), number(-1, 8), part(), part());
            case 21 -> ask("get", number(0, 3), number(-1, 2), number(-1, 8));
            case 22, 23 -> ask("rest", number(0, 3), number(-1, 2), number(-1, 8), number(-1, 8));
            case 24 -> ask("compare", number(0, 3), number(-1, 2), number(-1, 8), number(-1, 8));
            default -> {
                ask("sum", number(-1, 3), number(-1, 2));
                if (random.nextInt(6) == 0) {
                    ask("drop", number(-1, 3));
                }
            }
        }
    }

    private int part() {
        return switch (random.nextInt(4)) {
            case 0 -> 0;
            case 1 -> number(-9, 9);
            case 2 -> number(-9999, 9999);
            default -> pick(-10000, -9999, 9999, 10000, 1, 3, 7, -1);
        };
    }

    private int number(int low, int high) {
        return low + random.nextInt(high - low + 1);
    }

    private int pick(int... numbers) {
        return numbers[random.nextInt(numbers.length)];
    }

    private String validText() {
        List<String> clauses = new ArrayList<>();
        int n = y.count(0);
        int room = 16 - y.count(1);
        if (random.nextInt(3) != 0) {
            n = number(2, 8);
            room = 16;
            clauses.add("net " + n);
        }
        int more = number(0, Math.min(room, 13));
        boolean isTight = random.nextBoolean();
        for (int i = 0; i < more; i++) {
            int l = isTight ? number(0, 20) : number(0, 99);
            int s = isTight ? number(l / 2, l) : number(0, l);
            clauses.add("path " + random.nextInt(n) + " " + random.nextInt(n) + " " + l + " " + s);
        }
        if (random.nextBoolean()) {
            clauses.add("setup " + number(0, 9));
        }
        if (random.nextBoolean() || clauses.isEmpty()) {
            clauses.add("hold " + number(0, 9));
        }
        if (random.nextBoolean()) {
            clauses.add("step " + number(1, 9));
        }
        if (random.nextInt(3) == 0) {
            clauses.add("period " + number(0, isTight ? 40 : 150));
        }
        return String.join(pick(0, 1) == 0 ? ";" : " ; ", clauses);
    }

    private String spoil(String text) {
        int at = random.nextInt(text.length() + 1);
        String letters = " ;0159apnAZ\n\u00e9";
        String letter = String.valueOf(letters.charAt(random.nextInt(letters.length())));
        return switch (random.nextInt(4)) {
            case 0 -> text.substring(0, at);
            case 1 -> text.substring(0, at) + letter + text.substring(at);
            case 2 -> at == text.length() ? text + ";" : text.substring(0, at) + letter + text.substring(at + 1);
            default -> at == text.length() ? text : text.substring(0, at) + text.substring(at + 1);
        };
    }

    /** Nothing more is asked of an object that has been asked all it promises to answer. */
    private int ask(String name, int... numbers) throws ReflectiveOperationException {
        if (calls == MOST_CALLS) {
            return SkewPlan.NONE;
        }
        calls++;
        Class<?>[] types = new Class<?>[numbers.length];
        Arrays.fill(types, int.class);
        Object[] values = Arrays.stream(numbers).boxed().toArray();
        Method mine = SkewPlan.class.getDeclaredMethod(name, types);
        Method other = ReferencePlan.class.getDeclaredMethod(name, types);
        int got = (Integer) mine.invoke(x, values);
        int want = (Integer) other.invoke(y, values);
        due.is("run " + run + ": " + name + Arrays.toString(numbers), got, want);
        return got;
    }
}
