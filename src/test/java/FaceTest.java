import java.lang.reflect.Constructor;
import java.lang.reflect.Field;
import java.lang.reflect.Method;
import java.lang.reflect.Modifier;
import java.util.Arrays;
import java.util.Set;
import java.util.TreeSet;

/** The public face is that of the document, with no other member that can be seen. */
public final class FaceTest {
    private static final String FACE = "write(I) erase() fault() net() path(II) period(I) slower(II) undo() keep(I) back(I) "
            + "feasible() shift(I) least() rate(I) margin() spare(II) cycle(I) buffer(I) "
            + "trace(III) set(IIIII) get(III) rest(IIII) compare(IIII) sum(II) drop(I) count(I)";
    private static final String CONSTANTS = "NONE UNKNOWN OUTSIDE NOT FULL NULL SIZE CAST INDEX";

    public static void main(String[] args) {
        Due due = new Due();
        Set<String> wanted = new TreeSet<>(Arrays.asList(FACE.split(" ")));
        Set<String> found = new TreeSet<>();
        Set<String> names = new TreeSet<>();
        for (Method method : SkewPlan.class.getDeclaredMethods()) {
            if (Modifier.isPublic(method.getModifiers())) {
                found.add(signature(method));
                names.add(method.getName());
                due.is(method.getName() + " answers an int", method.getReturnType() == int.class ? 1 : 0, 1);
                due.is(method.getName() + " is static", Modifier.isStatic(method.getModifiers()) ? 1 : 0, 0);
            } else {
                due.is(method.getName() + " is private", isHidden(method.getModifiers(), method.isSynthetic()), 1);
            }
        }
        due.is("the face " + found, found.equals(wanted) ? 1 : 0, 1);
        for (Method method : SkewPlan.class.getDeclaredMethods()) {
            if (Modifier.isPrivate(method.getModifiers())) {
                due.is("private " + method.getName() + " has a public name", names.contains(method.getName()) ? 1 : 0, 0);
            }
        }
        Set<String> constants = new TreeSet<>(Arrays.asList(CONSTANTS.split(" ")));
        for (Field field : SkewPlan.class.getDeclaredFields()) {
            if (constants.contains(field.getName())) {
                due.is(field.getName() + " is public", Modifier.isPublic(field.getModifiers()) ? 1 : 0, 1);
            } else {
                due.is(field.getName() + " is private", isHidden(field.getModifiers(), field.isSynthetic()), 1);
            }
            if (Modifier.isStatic(field.getModifiers())) {
                due.is(field.getName() + " is final", Modifier.isFinal(field.getModifiers()) ? 1 : 0, 1);
            }
        }
        Constructor<?>[] constructors = SkewPlan.class.getDeclaredConstructors();
        due.is("constructors", constructors.length, 1);
        due.is("its parameters", constructors[0].getParameterCount(), 0);
        due.is("it is public", Modifier.isPublic(constructors[0].getModifiers()) ? 1 : 0, 1);
        due.is("the class is final", Modifier.isFinal(SkewPlan.class.getModifiers()) ? 1 : 0, 1);
        due.is("NONE", SkewPlan.NONE, -1);
        due.is("UNKNOWN", SkewPlan.UNKNOWN, -2);
        due.is("OUTSIDE", SkewPlan.OUTSIDE, -3);
        due.is("NOT", SkewPlan.NOT, -4);
        due.is("FULL", SkewPlan.FULL, -5);
        due.is("NULL", SkewPlan.NULL, -11);
        due.is("SIZE", SkewPlan.SIZE, -12);
        due.is("CAST", SkewPlan.CAST, -13);
        due.is("INDEX", SkewPlan.INDEX, -14);
        due.end();
    }

    private static int isHidden(int modifiers, boolean isSynthetic) {
        return Modifier.isPrivate(modifiers) || isSynthetic ? 1 : 0;
    }

    private static String signature(Method method) {
        StringBuilder text = new StringBuilder(method.getName()).append('(');
        for (Class<?> parameter : method.getParameterTypes()) {
            text.append(parameter == int.class ? "I" : parameter.getName());
        }
        return text.append(')').toString();
    }
}
