import java.io.IOException;
import java.lang.reflect.Field;
import java.lang.reflect.Method;
import java.lang.reflect.Modifier;
import java.nio.file.Files;
import java.nio.file.Path;
import java.util.Arrays;
import java.util.List;
import java.util.Set;
import java.util.TreeSet;
import java.util.regex.Matcher;
import java.util.regex.Pattern;

/** Such rules of LANGUAGE.md as the source itself and its classes show; run from the project's root. */
public final class LanguageTest {
    private static final String SOURCE = "src/main/java/SkewPlan.java";
    private static final String[] NOT_HERE = {
        "^\\s*(import|package)\\b", "->", "::", "\\b(try|catch|finally|throw|synchronized|assert|yield|var)\\b",
        "Exact\\(", "\\bNaN\\b", "\\.(hashCode|toString)\\(", "\\b(protected|volatile|transient|native)\\b",
        "^\\s*static \\{", "\\b(Double|Float|Object|Character|Boolean)\\b",
    };
    private static final String LIBRARY = "Math\\.(min|max|floorDiv)|System\\.arraycopy|Word\\.(values|PATH)";

    /** Rule 11. */
    private static final int MOST_CLASSES = 12;
    private static final int MOST_FIELDS = 20;
    /** Rule 5. */
    private static final Set<String> STATIC_TYPES = Set.of("int", "long", "boolean", "char", "String", "int[]", "long[]", "char[]", "byte[]");
    /** Rule 2. */
    private static final Set<String> ENUM_TYPES = Set.of("int", "long", "boolean", "String");

    private static final Due due = new Due();

    public static void main(String[] args) throws IOException {
        readLines();
        readClasses();
        due.end();
    }

    private static void readClasses() {
        Class<?>[] inside = SkewPlan.class.getDeclaredClasses();
        due.is("rule 11: at most some twelve classes", inside.length < MOST_CLASSES ? 1 : 0, 1);
        Set<String> publicNames = new TreeSet<>();
        Arrays.stream(SkewPlan.class.getMethods()).forEach(method -> publicNames.add(method.getName()));
        readFields(SkewPlan.class);
        for (Class<?> one : inside) {
            int modifiers = one.getModifiers();
            boolean isHidden = !Modifier.isPublic(modifiers) && !Modifier.isProtected(modifiers);
            due.is("rule 1: " + one.getName() + " is hidden and static", isHidden && Modifier.isStatic(modifiers) ? 1 : 0, 1);
            due.is("rule 2: " + one.getName() + " has no classes of its own", one.getDeclaredClasses().length, 0);
            for (Method method : one.getDeclaredMethods()) {
                due.is("rule 1: " + one.getName() + "." + method.getName() + " has a public name", publicNames.contains(method.getName()) ? 1 : 0, 0);
                due.is("rule 11: parameters of " + method.getName(), method.getParameterCount() <= 7 ? 1 : 0, 1);
            }
            readFields(one);
        }
    }

    private static void readFields(Class<?> one) {
        int fields = 0;
        for (Field field : one.getDeclaredFields()) {
            if (field.isSynthetic() || field.isEnumConstant()) {
                continue;
            }
            String name = one.getName() + "." + field.getName();
            String type = field.getType().getSimpleName();
            if (Modifier.isStatic(field.getModifiers())) {
                boolean isKeptValues = field.getType().isArray() && field.getType().getComponentType().isEnum();
                due.is("rule 5: " + name + " is a constant", Modifier.isFinal(field.getModifiers()) && (isKeptValues || STATIC_TYPES.contains(type)) ? 1 : 0, 1);
                continue;
            }
            fields++;
            if (one.isEnum()) {
                due.is("rule 2: " + name + " is of a type for enums", ENUM_TYPES.contains(type) ? 1 : 0, 1);
            }
        }
        due.is("rule 11: fields of " + one.getName(), fields <= MOST_FIELDS ? 1 : 0, 1);
    }

    private static void readLines() throws IOException {
        List<String> lines = Files.readAllLines(Path.of(SOURCE));
        int methodStart = -1;
        boolean isConstructor = false;
        for (int i = 0; i < lines.size(); i++) {
            String line = lines.get(i);
            String code = line.replaceAll("//.*|^\\s*/?\\*.*", "");
            String place = "line " + (i + 1) + ", " + line.trim();
            for (String pattern : NOT_HERE) {
                due.is(place + ": " + pattern, Pattern.compile(pattern).matcher(code).find() ? 1 : 0, 0);
            }
            Matcher library = Pattern.compile("\\b[A-Z][a-zA-Z]*[a-z]\\.\\w+").matcher(code);
            while (library.find()) {
                due.is(place + ": " + library.group(), library.group().matches(LIBRARY) ? 1 : 0, 1);
            }
            due.is(place + ": signs", line.chars().allMatch(c -> c < 128) ? 1 : 0, 1);
            if (code.matches("(    ){1,2}\\S.*\\) \\{") && !code.matches("\\s*(if|for|while|switch|}).*")) {
                methodStart = i;
                isConstructor = code.contains("public SkewPlan()");
                due.is(place + ": parameters", code.split(",").length <= 7 ? 1 : 0, 1);
            }
            if (code.matches("(    ){1,2}}") && methodStart >= 0) {
                due.is(place + ": a method's length", i - methodStart < 60 ? 1 : 0, 1);
                methodStart = -1;
            }
            // rows are made once: no call makes an object
            if (code.contains("new ")) {
                due.is(place + ": made by a call", code.matches("\\s*private final .*") || isConstructor ? 0 : 1, 0);
            }
        }
    }
}
