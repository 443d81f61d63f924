/** The boundary cases of THE TEXT, sentence by sentence: its terms, and promises 1 to 5. */
public final class TextBoundaryTest {
    private static final int NONE = SkewPlan.NONE, OUTSIDE = SkewPlan.OUTSIDE, NOT = SkewPlan.NOT, FULL = SkewPlan.FULL, NULL = SkewPlan.NULL;

    private static final Due due = new Due();

    public static void main(String[] args) {
        newObject();
        lettersAtMost();
        clausesBetween();
        clausesAtMost();
        netRegisters();
        netAllElse();
        pathRegisters();
        pathDelays();
        seventeenthPath();
        numbersOfTheOthers();
        smallLetters();
        digits();
        blanks();
        earlierTexts();
        firstToken();
        tokens();
        outOfBounds();
        endTooSoon();
        order();
        behindThem();
        writeLetter();
        writeFull();
        erase();
        fault();
        net();
        due.end();
    }

    private static void fault(String text, int place) {
        due.is("fault of '" + text + "'", Due.faultOf(text), place);
    }

    /** Told to a new object: what net() answers, and then count(what). */
    private static void told(String text, int what, int wanted) {
        SkewPlan x = new SkewPlan();
        due.is("net of '" + text + "' is not refused", Due.tell(x, text) > 0 ? 1 : 0, 1);
        due.is("count(" + what + ") by '" + text + "'", x.count(what), wanted);
    }

    private static void refused(String text, int place) {
        fault(text, place);
        SkewPlan x = new SkewPlan();
        due.is("net of '" + text + "'", Due.tell(x, text), NOT);
    }

    private static void newObject() {
        due.words("Promise 1", "Two registers, no paths");
        SkewPlan x = new SkewPlan();
        due.is("count(0)", x.count(0), 2);
        due.is("count(1)", x.count(1), 0);
        due.is("path(0, 0)", x.path(0, 0), SkewPlan.UNKNOWN);
        due.is("shift(1)", x.shift(1), 0);
        due.is("shift(2)", x.shift(2), SkewPlan.UNKNOWN);
        due.words("Terms", "SETUP, HOLD (0 at first), STEP (1 at first), PERIOD (99 at first)");
        due.is("count(2)", x.count(2), 0);
        due.is("count(3)", x.count(3), 0);
        due.is("count(4)", x.count(4), 1);
        due.is("count(5)", x.count(5), 99);
    }

    private static void lettersAtMost() {
        due.words("Terms", "THE TEXT is a row of letters, 200 at most");
        fault(" ".repeat(194) + "net 2", NONE);
        fault(" ".repeat(195) + "net 2", NONE);
        fault("net 2" + " ".repeat(195), NONE);
        // the 201st letter, the number, is not taken
        fault(" ".repeat(196) + "net 2", 200);
        told("net 3" + " ".repeat(195) + ";", 0, 3);
        told(" ".repeat(190) + "period 123", 5, 123);
        told(" ".repeat(191) + "period 123", 5, 12);
    }

    private static void clausesBetween() {
        due.words("Terms", "CLAUSES with ; between");
        told("hold 1;setup 2", 2, 2);
        fault("hold 1 setup 2", 7);
        fault("hold 1,setup 2", 6);
        fault(";hold 1", 0);
        fault(";", 0);
        fault("hold 1;;setup 2", 7);
        fault("hold 1;", 7);
        fault("hold;1", 4);
        fault("path 0 1;9 9", 8);
    }

    private static void clausesAtMost() {
        due.words("Terms", "CLAUSES, 24 at most");
        String clauses = "hold 1;".repeat(22);
        due.is("net of 23", Due.tell(new SkewPlan(), clauses + "hold 2"), 23);
        due.is("net of 24", Due.tell(new SkewPlan(), clauses + "hold 1;hold 3"), 24);
        told(clauses + "hold 1;hold 3", 3, 3);
        fault(clauses + "hold 1;hold 1 ", NONE);
        refused(clauses + "hold 1;hold 1;hold 1", 167);
        refused(clauses + "hold 1;hold 1;", 167);
        refused(clauses + "hold 1;hold 1 ;skew", 168);
        // a fault ahead of it is the first
        refused(clauses + "hold 1;hold x;hold 1", 166);
    }

    private static void netRegisters() {
        due.words("Terms", "net: N REGISTERS, 2 to 8");
        fault("net 0", 4);
        fault("net 1", 4);
        fault("net 9", 4);
        fault("net 10", 4);
        fault("net 999", 4);
        for (int n = 2; n <= 8; n++) {
            told("net " + n, 0, n);
            SkewPlan x = Due.of("net " + n);
            due.is("the last register of " + n, x.shift(n - 1), 0);
            due.is("one behind the last of " + n, x.shift(n), SkewPlan.UNKNOWN);
        }
    }

    private static void netAllElse() {
        due.words("Terms", "net: all else as at first");
        String all = "path 0 1 9 9;setup 9;hold 9;step 9;period 999";
        int[] first = {2, 0, 0, 0, 1, 99};
        for (int what = 1; what <= 5; what++) {
            told(all + ";net 2", what, first[what]);
            SkewPlan x = Due.of(all);
            due.is("a text more", Due.tell(x, "net 2"), 1);
            due.is("count(" + what + ") by a text more", x.count(what), first[what]);
        }
        told("net 8;" + all + ";net 2", 0, 2);
        told(all + ";net 2;path 0 0 1 1", 1, 1);
    }

    private static void pathRegisters() {
        due.words("Terms", "path: FROM A TO B, such as there are");
        for (int n = 2; n <= 8; n++) {
            String net = "net " + n + ";path ";
            fault(net + "0 0 9 9", NONE);
            fault(net + (n - 1) + " 0 9 9", NONE);
            fault(net + "0 " + (n - 1) + " 9 9", NONE);
            fault(net + n + " 0 9 9", 11);
            fault(net + "0 " + n + " 9 9", 13);
        }
        fault("path 1 1 9 9", NONE);
        fault("path 2 1 9 9", 5);
        fault("path 1 2 9 9", 7);
        fault("net 8;path 7 7 9 9;net 3;path 7 0 9 9", 30);
        SkewPlan x = Due.of("net 5");
        Due.write(x, "path 4 4 9 9");
        due.is("registers of an earlier text", x.fault(), NONE);
        Due.write(x, "path 4 5 9 9");
        due.is("more than an earlier text told", x.fault(), 7);
        due.words("Terms", "FROM a REGISTER TO one (perhaps the same)");
        SkewPlan same = Due.of("path 1 1 9 9");
        due.is("path(0, 0)", same.path(0, 0), 1);
        due.is("path(0, 1)", same.path(0, 1), 1);
    }

    private static void pathDelays() {
        due.words("Terms", "path: LONG L, 0 to 99");
        fault("path 0 1 0 0", NONE);
        fault("path 0 1 99 0", NONE);
        fault("path 0 1 100 0", 9);
        fault("path 0 1 199 0", 9);
        fault("path 0 1 999 0", 9);
        due.is("path(0, 2) of 0", Due.of("path 0 1 0 0").path(0, 2), 0);
        due.is("path(0, 2) of 99", Due.of("path 0 1 99 0").path(0, 2), 99);
        due.words("Terms", "path: SHORT S, 0 to L");
        fault("path 0 1 0 1", 11);
        fault("path 0 1 1 1", NONE);
        fault("path 0 1 1 2", 11);
        fault("path 0 1 99 99", NONE);
        fault("path 0 1 99 100", 12);
        fault("path 0 1 98 99", 12);
        due.is("path(0, 3) of 0", Due.of("path 0 1 99 0").path(0, 3), 0);
        due.is("path(0, 3) of 99", Due.of("path 0 1 99 99").path(0, 3), 99);
        // by its own LONG, not by that of the path ahead of it
        fault("path 0 1 99 99;path 0 1 5 6", 26);
        fault("path 0 1 5 5;path 0 1 99 99", NONE);
    }

    private static void seventeenthPath() {
        due.words("Terms", "PATHS 0, 1 .., 16 at most (none at first)");
        SkewPlan x = Due.of(Due.EIGHT_PATHS);
        due.is("eight more", Due.tell(x, Due.EIGHT_PATHS), 8);
        due.is("count(1)", x.count(1), 16);
        due.is("path(15, 2)", x.path(15, 2), 9);
        due.is("path(16, 2)", x.path(16, 2), SkewPlan.UNKNOWN);
        due.words("Terms", "path: a seventeenth cannot stand there (at its word)");
        Due.write(x, "path 0 1 9 9");
        due.is("fault of a seventeenth", x.fault(), 0);
        due.is("net", x.net(), NOT);
        Due.write(x, "hold 1; path 7 7 999 999");
        due.is("at its word, not at what is wrong behind it", x.fault(), 8);
        Due.write(x, "hold 1; path");
        due.is("at its word, not at the end", x.fault(), 8);
        Due.write(x, "hold x; path 0 1 9 9");
        due.is("not at a later fault", x.fault(), 5);
        Due.write(x, "hold 9;step 9;period 9;setup 9");
        due.is("other clauses can stand", x.fault(), NONE);
        Due.write(x, "net 2;path 0 1 9 9");
        due.is("behind a net it is the first", x.fault(), NONE);
        SkewPlan y = Due.of(Due.EIGHT_PATHS);
        Due.write(y, Due.EIGHT_PATHS + ";path 0 1 9 9");
        due.is("fault of a seventeenth in the same text", y.fault(), 104);
        due.is("net, refused whole", y.net(), NOT);
        due.is("count(1)", y.count(1), 8);
    }

    private static void numbersOfTheOthers() {
        String[] words = {"setup", "hold", "step", "period"};
        String[] bounds = {"setup: 0 to 9", "hold: 0 to 9", "step: 1 to 9", "period: 0 to 999"};
        int[] least = {0, 0, 1, 0};
        int[] most = {9, 9, 9, 999};
        for (int i = 0; i < words.length; i++) {
            due.words("Terms", bounds[i]);
            String start = words[i] + " ";
            told(start + least[i], 2 + i, least[i]);
            told(start + most[i], 2 + i, most[i]);
            fault(start + (most[i] + 1), start.length());
            fault(start + "-1", start.length());
            fault(start + "0", least[i] == 0 ? NONE : start.length());
        }
    }

    private static void smallLetters() {
        due.words("Terms", "small letters a .. z");
        fault("Net 2", 0);
        fault("NET 2", 0);
        fault("neT 2", 0);
        // what comes next to a and to z in the row of all letters is by itself
        fault("net`2", 3);
        fault("net{2", 3);
        fault("`net 2", 0);
        fault("net 2{", 5);
        // a and z belong to a row
        fault("neta2", 0);
        fault("netz2", 0);
        fault("anet 2", 0);
        fault("znet 2", 0);
        for (String word : new String[] {"net", "setup", "hold", "step", "period"}) {
            fault(word + " 2", NONE);
            fault(word.substring(0, word.length() - 1) + " 2", 0);
            fault(word.substring(1) + " 2", 0);
            fault(word + word.charAt(0) + " 2", 0);
        }
        for (String clause : new String[] {"net 2", "path 0 1 9 9", "setup 1", "hold 1", "step 1", "period 1"}) {
            for (int i = 0; i < clause.indexOf(' '); i++) {
                fault(clause.substring(0, i) + "x" + clause.substring(i + 1), 0);
            }
        }
        fault("paths 0 1 9 9", 0);
        fault("pat 0 1 9 9", 0);
    }

    private static void digits() {
        due.words("Terms", "numbers of 1 to 3 digits");
        told("period 7", 5, 7);
        told("period 70", 5, 70);
        told("period 700", 5, 700);
        told("period 007", 5, 7);
        told("period 000", 5, 0);
        told("net 008", 0, 8);
        fault("period 0007", 7);
        fault("period 7000", 7);
        fault("net 0002", 4);
        fault("path 0000 1 9 9", 5);
        fault("path 0 1 9 0009", 11);
        // what comes next to 0 and to 9 in the row of all letters is no digit
        fault("net /", 4);
        fault("net :", 4);
        fault("net 2/", 5);
        fault("net 2:", 5);
        told("period 909", 5, 909);
    }

    private static void blanks() {
        due.words("Terms", "blanks between");
        told("   net   3   ;   hold   4   ", 0, 3);
        told("   net   3   ;   hold   4   ", 3, 4);
        fault("path  0  1   9    9", NONE);
        fault("path 01 0 9", 11);
        fault("ne t 2", 0);
        fault("period 1 2", 9);
        for (int letter : new int[] {0, 9, 10, 13, 31, 33, 127, 160, 255}) {
            fault("net" + (char) letter + "2", 3);
            fault("net 2" + (char) letter, 5);
        }
    }

    private static void earlierTexts() {
        due.words("Terms", "what earlier texts told stays as it was told");
        SkewPlan x = Due.of("net 4;path 3 2 40 20;setup 5;hold 6;step 7;period 80");
        x.period(81);
        x.slower(0, 20);
        due.is("a path more", Due.tell(x, "path 0 1 9 8"), 1);
        int[] wanted = {4, 2, 5, 6, 7, 80};
        for (int what = 0; what <= 5; what++) {
            due.is("count(" + what + ")", x.count(what), wanted[what]);
        }
        due.is("path(0, 2)", x.path(0, 2), 40);
        due.is("path(0, 3)", x.path(0, 3), 20);
        due.is("path(1, 2)", x.path(1, 2), 9);
        x.keep(0);
        x.slower(1, 1);
        x.back(0);
        x.slower(1, 2);
        due.is("setup only", Due.tell(x, "setup 4"), 1);
        due.is("path(1, 2) as told", x.path(1, 2), 9);
        due.is("path(1, 3) as told", x.path(1, 3), 8);
    }

    private static void firstToken() {
        due.words("Terms", "A FAULT is at the first TOKEN that cannot stand there");
        fault("net 9;hold 99;skew", 4);
        fault("hold 1;skew 2;net 9", 7);
        fault("path 9 9 999 999", 5);
        fault("path 0 9 999 999", 7);
        fault("path 0 1 999 999", 9);
        fault("path 0 1 9 999", 11);
        fault("2", 0);
        fault("net net", 4);
        fault("net ;", 4);
        fault("net 2 2", 6);
        fault("path 0 1 9 9 9", 13);
        fault("path path", 5);
        fault("hold 1; 2", 8);
    }

    private static void tokens() {
        due.words("Terms", "TOKEN (a row of small letters, a row of digits, any other letter)");
        fault("hold 1 skew", 7);
        fault("hold 1skew", 6);
        fault("nethold 2", 0);
        fault("net 2hold", 5);
        fault("net 22", 4);
        fault("net 2!!", 5);
        fault("net !2", 4);
        fault("!net 2", 0);
        fault("net 2 !", 6);
        fault("hold1x", 5);
        fault("net 2Hold", 5);
    }

    private static void outOfBounds() {
        due.words("Terms", "(a number out of its bounds, of more digits, also)");
        fault("hold   10", 7);
        fault("net 2;step 0", 11);
        fault("hold 0001", 5);
        fault("hold 00000000000000000001", 5);
        // such numbers would come round to 2, were they read as the machine's
        fault("net 4294967298", 4);
        fault("net 18446744073709551618", 4);
        fault("period " + "9".repeat(193), 7);
    }

    private static void endTooSoon() {
        due.words("Terms", "or at the end, if it comes too soon");
        fault("", 0);
        fault(" ", 1);
        String[] clauses = {"net 2", "path 0 1 9 9", "setup 1", "hold 1", "step 1", "period 1"};
        for (String clause : clauses) {
            String[] parts = clause.split(" ");
            String start = "";
            for (int i = 0; i < parts.length - 1; i++) {
                start += parts[i];
                fault(start, start.length());
                fault(start + "  ", start.length() + 2);
                fault("net 2; " + start, start.length() + 7);
                start += " ";
            }
            fault(clause, NONE);
            fault(clause + ";", clause.length() + 1);
            fault(clause + " ; ", clause.length() + 3);
        }
        fault(" ".repeat(200), 200);
    }

    private static void order() {
        due.words("Terms", "CLAUSES are done in their order");
        told("hold 1;hold 2", 3, 2);
        told("hold 2;hold 1", 3, 1);
        told("hold 5;net 3", 3, 0);
        told("net 3;hold 5", 3, 5);
        told("net 5;net 3", 0, 3);
        told("path 0 1 9 9;net 3", 1, 0);
        SkewPlan x = Due.of("path 0 1 7 7;path 1 0 8 8");
        due.is("path(0, 2)", x.path(0, 2), 7);
        due.is("path(1, 2)", x.path(1, 2), 8);
    }

    private static void behindThem() {
        due.words("Terms", "Behind them all is as told");
        SkewPlan x = Due.of("path 0 1 50 40;period 60");
        change(x);
        due.is("net", Due.tell(x, "hold 1"), 1);
        due.is("PERIOD", x.count(5), 60);
        due.is("LONG", x.path(0, 2), 50);
        due.is("SHORT", x.path(0, 3), 40);
        change(x);
        x.back(1);
        due.is("net behind back()", Due.tell(x, "hold 1"), 1);
        due.is("PERIOD behind back()", x.count(5), 60);
        due.words("Terms", "nothing is kept or can be undone");
        due.is("back(0)", x.back(0), NOT);
        due.is("back(1)", x.back(1), NOT);
        due.is("undo()", x.undo(), NOT);
        change(x);
        due.is("net of a net", Due.tell(x, "net 2"), 1);
        due.is("count(7)", x.count(7), 0);
        due.is("undo() again", x.undo(), NOT);
        due.is("back(0) again", x.back(0), NOT);
        due.is("back(1) again", x.back(1), NOT);
        due.words("Terms", "TRACES are all missing");
        for (int trace = 0; trace <= 2; trace++) {
            x.trace(trace, trace % 2, trace * 4);
        }
        due.is("net", Due.tell(x, "hold 1"), 1);
        due.is("count(6)", x.count(6), 0);
        for (int trace = 0; trace <= 2; trace++) {
            due.is("drop(" + trace + ")", x.drop(trace), NULL);
        }
    }

    private static void change(SkewPlan x) {
        x.keep(0);
        x.slower(0, 3);
        x.period(61);
        x.keep(1);
        x.slower(0, 4);
    }

    private static void writeLetter() {
        due.words("Promise 2", "A letter (its number, 0 .. 255) more of THE TEXT: how many it has. OUTSIDE");
        SkewPlan x = new SkewPlan();
        due.is("write(0)", x.write(0), 1);
        due.is("write(255)", x.write(255), 2);
        for (int letter : new int[] {-1, 256, Integer.MIN_VALUE, Integer.MAX_VALUE, 'n' + 65536, -256}) {
            due.is("write(" + letter + ")", x.write(letter), OUTSIDE);
        }
        due.is("count(8)", x.count(8), 2);
        due.is("write(128)", x.write(128), 3);
    }

    private static void writeFull() {
        due.words("Promise 2", "FULL");
        SkewPlan x = new SkewPlan();
        for (int i = 1; i <= 200; i++) {
            due.is("letter " + i, x.write(' '), i);
        }
        due.is("letter 201", x.write(' '), FULL);
        due.is("letter 201 again", x.write('a'), FULL);
        due.is("count(8)", x.count(8), 200);
        due.is("fault()", x.fault(), 200);
        due.is("OUTSIDE ahead of FULL", x.write(256), OUTSIDE);
        due.is("OUTSIDE ahead of FULL, below", x.write(-1), OUTSIDE);
        due.is("erase()", x.erase(), 200);
        due.is("room again", x.write(' '), 1);
    }

    private static void erase() {
        due.words("Promise 3", "THE TEXT is empty: how many letters it had");
        SkewPlan x = new SkewPlan();
        due.is("nothing to erase", x.erase(), 0);
        x.write('a');
        due.is("one letter", x.erase(), 1);
        due.is("empty then", x.erase(), 0);
        due.is("count(8)", x.count(8), 0);
        due.is("fault()", x.fault(), 0);
        Due.write(x, "net 2;hold 3");
        x.erase();
        x.write('n');
        x.write('e');
        x.write('t');
        due.is("of what was erased nothing is read", x.fault(), 3);
    }

    private static void fault() {
        due.words("Promise 4", "The place of the FAULT (the letter with which the TOKEN begins, or the length); NONE");
        SkewPlan x = new SkewPlan();
        due.is("at the very first", x.fault(), 0);
        Due.write(x, "period 1000");
        due.is("where the number begins", x.fault(), 7);
        due.is("asked again", x.fault(), 7);
        due.is("the text stays", x.count(8), 11);
        Due.write(x, "period 100");
        due.is("none", x.fault(), NONE);
        due.is("nothing is done", x.count(5), 99);
        due.is("the text stays", x.count(8), 10);
        x.write(';');
        due.is("the length", x.fault(), 11);
    }

    private static void net() {
        due.words("Promise 5", "THE TEXT's CLAUSES are done, and it is empty then: how many there were");
        SkewPlan x = new SkewPlan();
        due.is("one", Due.tell(x, "net 2"), 1);
        due.is("count(8)", x.count(8), 0);
        due.is("fault()", x.fault(), 0);
        due.is("two", Due.tell(x, "net 2;net 2"), 2);
        due.is("twenty-four", Due.tell(x, "net 2;".repeat(23) + "net 4"), 24);
        due.is("count(0)", x.count(0), 4);
        due.words("Promise 5", "NOT: it has a FAULT");
        due.is("empty", x.net(), NOT);
        Due.write(x, "net 3;hold 5;step 0");
        due.is("net()", x.net(), NOT);
        due.is("nothing of it is done", x.count(0), 4);
        due.is("count(3)", x.count(3), 0);
        due.is("the text stays", x.count(8), 19);
        due.is("another text", Due.tell(x, "setup 2"), 1);
        due.is("nothing of the one that was refused", x.count(0), 4);
        due.is("count(3) still", x.count(3), 0);
        x.erase();
        due.is("empty again", x.net(), NOT);
        due.is("count(0) still", x.count(0), 4);
    }
}
