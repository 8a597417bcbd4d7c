import java.io.IOException;
import java.lang.reflect.InvocationTargetException;
import java.lang.reflect.Method;
import java.lang.reflect.Modifier;
import java.nio.file.Files;
import java.nio.file.Path;
import java.util.Arrays;
import java.util.List;
import java.util.Set;
import java.util.TreeSet;
import java.util.regex.Matcher;
import java.util.regex.Pattern;

/** README.md: each call of its example answers what stands behind it, and its table has every call of the face. */
public final class ReadmeTest {
    private static final Checks CHECKS = new Checks("readme");
    private static final Pattern MADE = Pattern.compile("SegmentLogs logs = new SegmentLogs\\((\\d+)\\);");
    private static final Pattern CALL = Pattern.compile("logs\\.(\\w+)\\((.*)\\); +// ([-\\w]+)(:.*)?");
    private static final Pattern ROW = Pattern.compile("\\| `(.+)` \\| .+ \\| (.+) \\|");

    public static void main(String[] args) throws IOException, IllegalAccessException {
        List<String> lines = Files.readAllLines(Path.of(System.getProperty("project", "."), "README.md"));
        example(lines);
        table(lines);
        CHECKS.end();
    }

    private static void example(List<String> lines) throws IllegalAccessException {
        int first = lines.indexOf("```java") + 1;
        int end = first + lines.subList(first, lines.size()).indexOf("```");
        Matcher made = MADE.matcher(lines.get(first));
        CHECKS.is("the example makes an object", made.matches(), true);
        SegmentLogs logs = new SegmentLogs(Integer.parseInt(made.group(1)));
        Set<String> called = new TreeSet<>();
        for (String line : lines.subList(first + 1, end)) {
            Matcher call = CALL.matcher(line);
            CHECKS.is(line + " is a call", call.matches(), true);
            called.add(call.group(1));
            CHECKS.same(line, outcome(logs, call.group(1), call.group(2)), call.group(3));
        }
        CHECKS.same("methods of the example", called.toString(), names().toString());
    }

    private static void table(List<String> lines) {
        Set<String> rows = new TreeSet<>();
        for (String line : lines) {
            Matcher row = ROW.matcher(line);
            if (row.matches()) {
                rows.add(row.group(1).replaceAll(" \\w+([,)])", "$1") + thrown(row.group(2)));
            }
        }
        Set<String> due = new TreeSet<>();
        due.add("new SegmentLogs(int)[]");
        for (Method method : face()) {
            due.add(method.getReturnType().getSimpleName() + " " + method.getName() + "("
                + simple(method.getParameterTypes()) + ")[" + simple(method.getExceptionTypes()) + "]");
        }
        CHECKS.same("calls of the table", rows.toString(), due.toString());
    }

    private static String thrown(String cell) {
        return Pattern.compile("\\w+Exception").matcher(cell).results().map(one -> one.group()).toList().toString();
    }

    private static String outcome(SegmentLogs logs, String name, String written) throws IllegalAccessException {
        for (Method method : face()) {
            if (method.getName().equals(name)) {
                try {
                    Object answer = method.invoke(logs, values(written));
                    return method.getReturnType() == void.class ? Checks.FINE : String.valueOf(answer);
                } catch (InvocationTargetException e) {
                    return e.getCause().getClass().getSimpleName();
                }
            }
        }
        return "no such method";
    }

    private static Object[] values(String written) {
        return Arrays.stream(written.split(", ")).filter(one -> !one.isEmpty()).map(ReadmeTest::value).toArray();
    }

    private static Object value(String one) {
        boolean isTruth = one.equals("true") || one.equals("false");
        return isTruth ? (Object) Boolean.valueOf(one) : (Object) Integer.valueOf(one);
    }

    private static List<Method> face() {
        return Arrays.stream(SegmentLogs.class.getDeclaredMethods())
            .filter(method -> Modifier.isPublic(method.getModifiers())).toList();
    }

    private static Set<String> names() {
        Set<String> names = new TreeSet<>();
        for (Method method : face()) {
            names.add(method.getName());
        }
        return names;
    }

    private static String simple(Class<?>[] types) {
        return String.join(", ", Arrays.stream(types).map(Class::getSimpleName).toList());
    }
}
