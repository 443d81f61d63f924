/** Counts answers that are not as due, and tells each. */
final class Due {
    /** Sixteen paths, as many as there can be, are too many for one text with blanks: the first of two. */
    static final String EIGHT_PATHS = "path 0 1 9 9;path 0 1 9 9;path 0 1 9 9;path 0 1 9 9;path 0 1 9 9;path 0 1 9 9;path 0 1 9 9;path 0 1 9 9";

    private int wrong;
    private int asked;
    private int sentences;
    private int askedBeforeSentence;
    private String sentence = "";

    /** What is asked from here on would be answered otherwise, were these words of the document broken. */
    void words(String where, String words) {
        endSentence();
        sentence = where + " (" + words + "): ";
        sentences++;
        askedBeforeSentence = asked;
    }

    private void endSentence() {
        if (!sentence.isEmpty() && asked == askedBeforeSentence) {
            wrong++;
            System.out.println(sentence + "nothing is asked");
        }
    }

    void is(String call, long got, long want) {
        asked++;
        if (got != want) {
            wrong++;
            System.out.println(sentence + call + " answered " + got + ", due is " + want);
        }
    }

    void end() {
        endSentence();
        String of = sentences == 0 ? "" : " of " + sentences + " sentences";
        System.out.println(asked + " answers asked" + of + ", " + wrong + " not as due");
        if (wrong != 0 || asked == 0) {
            System.exit(1);
        }
    }

    /** Writes a text, without doing its clauses. */
    static void write(SkewPlan x, String text) {
        x.erase();
        for (int i = 0; i < text.length(); i++) {
            x.write(text.charAt(i));
        }
    }

    /** Writes a text and does its clauses: what net() answers. */
    static int tell(SkewPlan x, String text) {
        write(x, text);
        return x.net();
    }

    /** A new object of which texts were told. */
    static SkewPlan of(String... texts) {
        SkewPlan x = new SkewPlan();
        for (String text : texts) {
            if (tell(x, text) < 1) {
                throw new IllegalArgumentException("a test's own text has a fault: " + text);
            }
        }
        return x;
    }

    /** The place of the fault of a text that is told to a new object. */
    static int faultOf(String text) {
        SkewPlan x = new SkewPlan();
        write(x, text);
        return x.fault();
    }
}
