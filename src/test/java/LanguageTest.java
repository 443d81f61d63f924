import java.io.IOException;
import java.nio.file.Files;
import java.nio.file.Path;
import java.util.List;
import java.util.regex.Matcher;
import java.util.regex.Pattern;

/** Such rules of LANGUAGE.md as the source itself shows; run from the project's root. */
public final class LanguageTest {
    private static final String SOURCE = "src/main/java/SkewPlan.java";
    private static final String[] NOT_HERE = {
        "^\\s*(import|package)\\b", "->", "::", "\\b(try|catch|finally|throw|synchronized|assert|yield|var)\\b",
        "Exact\\(", "\\bNaN\\b", "\\.(hashCode|toString)\\(", "\\b(protected|volatile|transient|native)\\b",
        "^\\s*static \\{", "\\b(Double|Float|Object|Character|Boolean)\\b",
    };
    private static final String LIBRARY = "Math\\.(min|max|floorDiv)|System\\.arraycopy|Integer\\.MAX_VALUE|Word\\.(values|PATH)";

    private static final Due due = new Due();

    public static void main(String[] args) throws IOException {
        List<String> lines = Files.readAllLines(Path.of(SOURCE));
        int methodStart = -1;
        boolean isConstructor = false;
        for (int i = 0; i < lines.size(); i++) {
            String line = lines.get(i);
            String code = line.replaceAll("//.*|^\\s*/?\\*.*", "");
            String place = "line " + (i + 1) + ", " + line.trim();
            for (String pattern : NOT_HERE) {
                due.is(place + ": " + pattern, Pattern.compile(pattern).matcher(code).find() ? 1 : 0, 0);
            }
            Matcher library = Pattern.compile("\\b[A-Z][a-zA-Z]*[a-z]\\.\\w+").matcher(code);
            while (library.find()) {
                due.is(place + ": " + library.group(), library.group().matches(LIBRARY) ? 1 : 0, 1);
            }
            due.is(place + ": signs", line.chars().allMatch(c -> c < 128) ? 1 : 0, 1);
            if (code.matches("(    ){1,2}\\S.*\\) \\{") && !code.matches("\\s*(if|for|while|switch|}).*")) {
                methodStart = i;
                isConstructor = code.contains("public SkewPlan()");
                due.is(place + ": parameters", code.split(",").length <= 7 ? 1 : 0, 1);
            }
            if (code.matches("(    ){1,2}}") && methodStart >= 0) {
                due.is(place + ": a method's length", i - methodStart < 60 ? 1 : 0, 1);
                methodStart = -1;
            }
            // rows are made once: no call makes an object
            if (code.contains("new ")) {
                due.is(place + ": made by a call", code.matches("\\s*private final .*") || isConstructor ? 0 : 1, 0);
            }
        }
        due.end();
    }
}
