import java.io.IOException;
import java.lang.reflect.Method;
import java.nio.file.Files;
import java.nio.file.Path;
import java.util.HashMap;
import java.util.List;
import java.util.Map;
import java.util.Set;
import java.util.TreeSet;
import java.util.regex.Matcher;
import java.util.regex.Pattern;
import java.util.stream.Stream;

/** Runs the calls that README.md shows, in their order, and holds each to the answer and the RESULT that it tells. */
public final class ReadmeTest {
    private static final Path TESTS = Path.of("src/test/java");
    private static final int MOST_CALLS = 512;
    private static final Pattern NEW_HOUSE = Pattern.compile("(ChooseOnce )?house = new ChooseOnce\\(\\);");
    /** A call, then the answer and the RESULT that are told of it, and words on it that are free. */
    private static final Pattern CALL = Pattern.compile(
        "(?:int (?<name>\\w+) = )?house\\.(?<call>\\w+)\\((?<args>[^()]*)\\);"
        + " +// (?<answer>-?\\d+|true|false)?(?:, )?(?:RESULT (?<top>-?\\d+) / (?<bottom>\\d+))?(?:: .+)?");

    private final Map<String, Long> names = new HashMap<>();
    private final Set<String> shown = new TreeSet<>();
    private ChooseOnce house = null;
    private int calls = 0;

    private ReadmeTest() {
    }

    public static void main(String[] args) throws IOException, ReflectiveOperationException {
        List<String> lines = Files.readAllLines(Path.of("README.md"));
        ReadmeTest readme = new ReadmeTest();
        boolean isCode = false;
        for (String line : lines) {
            if (line.startsWith("```")) {
                isCode = line.equals("```java");
            } else if (isCode && !line.isBlank()) {
                readme.line(line.strip());
            }
        }
        readme.everyCallIsShown();
        everyTestIsNamed(String.join("\n", lines));
        Due.end();
    }

    private void line(String line) throws ReflectiveOperationException {
        Matcher call = CALL.matcher(line);
        if (NEW_HOUSE.matcher(line).matches()) {
            house = new ChooseOnce();
            calls = 0;
        } else if (house != null && call.matches()) {
            call(line, call);
        } else {
            Due.is("can be run: " + line, false, true);
        }
    }

    private void call(String line, Matcher call) throws ReflectiveOperationException {
        Method method = methodNamed(call.group("call"));
        if (method == null) {
            Due.is("is a call of the house: " + line, false, true);
            return;
        }
        shown.add(method.getName());
        Object answer = method.invoke(house, arguments(method, call.group("args")));
        calls++;
        if (call.group("name") != null) {
            names.put(call.group("name"), (long) (int) answer);
        }
        boolean isVoid = method.getReturnType() == void.class;
        Due.is("tells the answer: " + line, call.group("answer") != null, !isVoid);
        Due.is(line + " (it answered " + answer + ")", isVoid || answer.toString().equals(call.group("answer")), true);
        if (call.group("top") != null) {
            Due.result(line, house, Long.parseLong(call.group("top")), Long.parseLong(call.group("bottom")));
            calls += 3 + house.look(1) + house.look(2);
        }
        Due.is("a RESULT is told: " + line, !isVoid || call.group("top") != null, true);
        Due.is("a house is used for at most 512 calls", calls <= MOST_CALLS, true);
    }

    private static Method methodNamed(String name) {
        for (Method method : ChooseOnce.class.getMethods()) {
            if (method.getDeclaringClass() == ChooseOnce.class && method.getName().equals(name)) {
                return method;
            }
        }
        return null;
    }

    private Object[] arguments(Method method, String told) {
        String[] words = told.isBlank() ? new String[0] : told.split(", ");
        Class<?>[] types = method.getParameterTypes();
        Due.is("arguments of " + method.getName() + "(" + told + ")", words.length, types.length);
        Object[] values = new Object[types.length];
        for (int i = 0; i < types.length; i++) {
            values[i] = argument(types[i], i < words.length ? words[i] : "0");
        }
        return values;
    }

    private Object argument(Class<?> type, String word) {
        if (type == boolean.class) {
            return word.equals("true");
        }
        long value = names.containsKey(word) ? names.get(word) : Long.parseLong(word);
        if (type == long.class) {
            return value;
        }
        return Math.toIntExact(value);
    }

    private void everyCallIsShown() {
        for (Method method : ChooseOnce.class.getMethods()) {
            if (method.getDeclaringClass() == ChooseOnce.class) {
                Due.is("README.md shows " + method.getName(), shown.contains(method.getName()), true);
            }
        }
    }

    private static void everyTestIsNamed(String readme) throws IOException {
        Set<String> told = new TreeSet<>();
        Matcher each = Pattern.compile("`(\\w+Test)`").matcher(readme);
        while (each.find()) {
            told.add(each.group(1));
        }
        Set<String> there = new TreeSet<>();
        try (Stream<Path> files = Files.list(TESTS)) {
            files.map(file -> file.getFileName().toString()).filter(name -> name.endsWith("Test.java"))
                .forEach(name -> there.add(name.replace(".java", "")));
        }
        Due.is("README.md names the tests " + there + ", it names " + told, told.equals(there), true);
    }
}
