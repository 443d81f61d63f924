import java.io.IOException;
import java.lang.reflect.Method;
import java.nio.file.Files;
import java.nio.file.Path;
import java.util.Arrays;
import java.util.Set;
import java.util.TreeSet;
import java.util.regex.Matcher;
import java.util.regex.Pattern;

/** README.md's example answers what it says there, and the page names every call; run from the project's root. */
public final class ReadmeTest {
    private static final Pattern EXAMPLE = Pattern.compile("```java\n(.*?)```", Pattern.DOTALL);
    private static final Pattern TEXT = Pattern.compile("String text = \"([^\"]*)\";");
    private static final Pattern CALL = Pattern.compile("(?m)^x\\.(\\w+)\\(([-0-9, ]*)\\); *// (-?\\d+)");
    /** Calls of the example, so that one that no longer reads as a call is missed. */
    private static final int CALLS = 34;

    private static final Due due = new Due();

    public static void main(String[] args) throws IOException, ReflectiveOperationException {
        String page = Files.readString(Path.of("README.md"));
        Matcher example = EXAMPLE.matcher(page);
        due.is("the page has an example", example.find() ? 1 : 0, 1);
        runExample(example.group(1));
        namesEveryCall(page);
        due.end();
    }

    private static void runExample(String code) throws ReflectiveOperationException {
        Matcher text = TEXT.matcher(code);
        due.is("the example has a text", text.find() ? 1 : 0, 1);
        SkewPlan x = new SkewPlan();
        Due.write(x, text.group(1));
        int calls = 0;
        Matcher call = CALL.matcher(code);
        while (call.find()) {
            calls++;
            due.is(call.group(), ask(x, call.group(1), call.group(2)), Integer.parseInt(call.group(3)));
        }
        due.is("calls of the example", calls, CALLS);
    }

    private static int ask(SkewPlan x, String name, String numbers) throws ReflectiveOperationException {
        Object[] values = numbers.isBlank() ? new Object[0]
                : Arrays.stream(numbers.split(", *")).map(Integer::valueOf).toArray();
        Class<?>[] types = new Class<?>[values.length];
        Arrays.fill(types, int.class);
        return (Integer) SkewPlan.class.getMethod(name, types).invoke(x, values);
    }

    private static void namesEveryCall(String page) {
        Set<String> named = new TreeSet<>();
        Matcher name = Pattern.compile("`(\\w+)`").matcher(page);
        while (name.find()) {
            named.add(name.group(1));
        }
        for (Method method : SkewPlan.class.getDeclaredMethods()) {
            if (java.lang.reflect.Modifier.isPublic(method.getModifiers())) {
                due.is("the page names " + method.getName(), named.contains(method.getName()) ? 1 : 0, 1);
            }
        }
    }
}
