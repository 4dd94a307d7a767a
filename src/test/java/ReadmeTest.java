import java.lang.reflect.Method;
import java.lang.reflect.Modifier;
import java.nio.file.Files;
import java.nio.file.Path;
import java.util.Arrays;
import java.util.Collections;
import java.util.HashMap;
import java.util.Map;
import java.util.regex.Matcher;
import java.util.regex.Pattern;

/** README.md: each call of its example answers what stands behind it, and its table has every call. */
public final class ReadmeTest {
    private static final Pattern EXAMPLE = Pattern.compile("(?s)```java\n(.*?)```");
    private static final String FIRST_LINE = "HouseWorkers house = new HouseWorkers();";
    private static final Pattern CALL =
        Pattern.compile("(?:int (\\w+) = )?house\\.(\\w+)\\(([^)]*)\\);\\s+// (-?\\d+): .*");

    private static boolean failed = false;

    public static void main(String[] args) throws Exception {
        String readme = Files.readString(Path.of("README.md"));
        theExample(readme);
        theTable(readme);
        System.out.println(failed ? "the README is not as due" : "the README is as due");
        if (failed) {
            System.exit(1);
        }
    }

    private static void fail(String why) {
        failed = true;
        System.out.println(why);
    }

    private static void theExample(String readme) throws Exception {
        Matcher example = EXAMPLE.matcher(readme);
        if (!example.find()) {
            fail("there is no example");
            return;
        }
        String[] lines = example.group(1).split("\n");
        if (!lines[0].equals(FIRST_LINE)) {
            fail("the example begins with " + lines[0]);
        }
        HouseWorkers house = new HouseWorkers();
        Map<String, Integer> names = new HashMap<>();
        for (int i = 1; i < lines.length; i++) {
            theLine(house, names, lines[i]);
        }
    }

    private static void theLine(HouseWorkers house, Map<String, Integer> names, String line) throws Exception {
        Matcher call = CALL.matcher(line);
        if (!call.matches()) {
            fail("no call with its answer: " + line);
            return;
        }
        int got = answer(house, call.group(2), arguments(call.group(3), names));
        if (got != Integer.parseInt(call.group(4))) {
            fail("it answered " + got + ": " + line);
        }
        if (call.group(1) != null) {
            names.put(call.group(1), got);
        }
    }

    private static Object[] arguments(String list, Map<String, Integer> names) {
        if (list.isEmpty()) {
            return new Object[0];
        }
        return Arrays.stream(list.split(", "))
            .map(a -> names.containsKey(a) ? names.get(a) : Integer.valueOf(a)).toArray();
    }

    private static int answer(HouseWorkers house, String name, Object[] arguments) throws Exception {
        Class<?>[] types = new Class<?>[arguments.length];
        Arrays.fill(types, int.class);
        return (int) HouseWorkers.class.getMethod(name, types).invoke(house, arguments);
    }

    private static void theTable(String readme) {
        for (Method method : HouseWorkers.class.getDeclaredMethods()) {
            if (Modifier.isPublic(method.getModifiers()) && !hasRow(readme, method)) {
                fail("the table has no " + method);
            }
        }
    }

    private static boolean hasRow(String readme, Method method) {
        String names = String.join(", ", Collections.nCopies(method.getParameterCount(), "\\w+"));
        return Pattern.compile("\n\\| `" + method.getName() + "\\(" + names + "\\)` \\|").matcher(readme).find();
    }
}
