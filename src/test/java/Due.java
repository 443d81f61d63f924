/** Counts answers that are not as due, and tells each. */
final class Due {
    private int wrong;
    private int asked;

    void is(String call, long got, long want) {
        asked++;
        if (got != want) {
            wrong++;
            System.out.println(call + " answered " + got + ", due is " + want);
        }
    }

    void end() {
        System.out.println(asked + " answers asked, " + wrong + " not as due");
        if (wrong != 0 || asked == 0) {
            System.exit(1);
        }
    }

    /** Writes a text, without doing its clauses. */
    static void write(SkewPlan x, String text) {
        x.erase();
        for (int i = 0; i < text.length(); i++) {
            x.write(text.charAt(i));
        }
    }

    /** Writes a text and does its clauses: what net() answers. */
    static int tell(SkewPlan x, String text) {
        write(x, text);
        return x.net();
    }

    /** A new object of which a text was told. */
    static SkewPlan of(String text) {
        SkewPlan x = new SkewPlan();
        if (tell(x, text) < 1) {
            throw new IllegalArgumentException("a test's own text has a fault: " + text);
        }
        return x;
    }
}
