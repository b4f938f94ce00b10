import java.io.IOException;
import java.lang.reflect.Method;
import java.lang.reflect.Modifier;
import java.nio.file.Files;
import java.nio.file.Path;
import java.util.HashMap;
import java.util.HashSet;
import java.util.Map;
import java.util.Set;
import java.util.regex.Matcher;
import java.util.regex.Pattern;

/** Runs the examples of README.md as one run, and looks whether the page names all there is; run from the root. */
public final class HourAgoReadmeTest extends Bench {
    private static final Path README = Path.of("README.md");
    /** A call, then behind "//" its answer, a number or a name. */
    private static final Pattern EXAMPLE = Pattern.compile("x\\.(\\w+)\\((.*)\\); +// (-?\\d+|[A-Z]+)\\b.*");
    private static final Map<String, Long> NAMES = Map.of("NONE", (long) NONE, "UNKNOWN", (long) UNKNOWN, "OUTSIDE",
        (long) OUTSIDE, "STATE", (long) STATE, "FULL", (long) FULL);

    public static void main(String[] args) throws IOException, ReflectiveOperationException {
        String page = Files.readString(README);
        Map<String, Method> calls = callsOfTheFace();
        namesAll(page, calls);
        Set<String> shown = runExamples(page, calls);
        for (String name : calls.keySet()) {
            due("README shows " + name, shown.contains(name) ? 1 : 0, 1);
        }
        finish();
    }

    private static Map<String, Method> callsOfTheFace() {
        Map<String, Method> calls = new HashMap<>();
        for (Method method : HourAgo.class.getDeclaredMethods()) {
            if (Modifier.isPublic(method.getModifiers())) {
                calls.put(method.getName(), method);
            }
        }
        return calls;
    }

    private static void namesAll(String page, Map<String, Method> calls) {
        calls.forEach((name, method) -> due("README tells of " + name,
            Pattern.compile("\n\\| `" + name + "\\([^)]*\\)` \\|").matcher(page).results().count(), 1));
        NAMES.forEach((name, number) -> due("README tells of " + name,
            page.contains("`" + name + "` (" + number + ")") ? 1 : 0, 1));
    }

    /** The names of the calls that were run. */
    private static Set<String> runExamples(String page, Map<String, Method> calls)
        throws ReflectiveOperationException {
        Set<String> shown = new HashSet<>();
        HourAgo x = new HourAgo();
        for (String line : page.split("\n")) {
            if (!line.startsWith("x.")) {
                continue;
            }
            Matcher example = EXAMPLE.matcher(line);
            if (!example.matches() || !calls.containsKey(example.group(1))) {
                due("an example that can be read: " + line, 0, 1);
                continue;
            }
            shown.add(example.group(1));
            due("README: " + line, answer(x, calls.get(example.group(1)), example.group(2)), wanted(example.group(3)));
        }
        return shown;
    }

    private static long answer(HourAgo x, Method call, String told) throws ReflectiveOperationException {
        String[] numbers = told.isEmpty() ? new String[0] : told.split(", ");
        Object[] values = new Object[numbers.length];
        for (int i = 0; i < numbers.length; i++) {
            long number = Long.decode(numbers[i].replace("L", ""));
            values[i] = call.getParameterTypes()[i] == long.class ? (Object) number : (Object) (int) number;
        }
        return ((Number) call.invoke(x, values)).longValue();
    }

    private static long wanted(String told) {
        return NAMES.containsKey(told) ? NAMES.get(told) : Long.parseLong(told);
    }
}
