import java.lang.reflect.Constructor;
import java.lang.reflect.Field;
import java.lang.reflect.Method;
import java.lang.reflect.Modifier;
import java.util.Arrays;
import java.util.Set;
import java.util.TreeSet;

/** The public face of the document, and rules 1 and 5 of LANGUAGE.md on members. */
public final class FaceTest {
    private static final String[] DUE = {
        "boolean isUsed(int) throws [IllegalArgumentException]",
        "int checkpoint() throws []",
        "int free() throws []",
        "int look(int, int) throws [IllegalArgumentException]",
        "int next(int) throws [IllegalArgumentException]",
        "int take(int) throws [IllegalArgumentException, IllegalStateException]",
        "int used() throws []",
        "int victim(boolean) throws []",
        "void drop(int) throws [IllegalArgumentException, IllegalStateException]",
    };

    public static void main(String[] args) {
        Checks checks = new Checks("face");
        Class<?> face = SegmentLogs.class;
        checks.equal("modifiers", face.getModifiers(), Modifier.PUBLIC | Modifier.FINAL);
        Constructor<?>[] made = face.getDeclaredConstructors();
        checks.same("constructors", Arrays.toString(made), "[public SegmentLogs(int)]");

        Set<String> open = new TreeSet<>();
        Set<String> openNames = new TreeSet<>();
        for (Method method : face.getDeclaredMethods()) {
            if (!Modifier.isPrivate(method.getModifiers())) {
                checks.equal("modifiers of " + method, method.getModifiers(), Modifier.PUBLIC);
                open.add(written(method));
                openNames.add(method.getName());
            }
        }
        checks.same("methods", open.toString(), Arrays.toString(DUE));
        for (Method method : face.getDeclaredMethods()) {
            if (Modifier.isPrivate(method.getModifiers())) {
                checks.is(method + " bears a public name", openNames.contains(method.getName()), false);
            }
        }
        for (Field field : face.getDeclaredFields()) {
            checks.is(field + " is private", Modifier.isPrivate(field.getModifiers()), true);
            boolean changes = Modifier.isStatic(field.getModifiers()) && !Modifier.isFinal(field.getModifiers());
            checks.is(field + " is static and changes", changes, false);
        }
        checks.end();
    }

    private static String written(Method method) {
        return method.getReturnType().getSimpleName() + " " + method.getName() + "(" + names(method.getParameterTypes())
            + ") throws [" + names(method.getExceptionTypes()) + "]";
    }

    private static String names(Class<?>[] types) {
        return String.join(", ", Arrays.stream(types).map(Class::getSimpleName).toList());
    }
}
