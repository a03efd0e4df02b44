import java.io.IOException;
import java.lang.reflect.Method;
import java.lang.reflect.Modifier;
import java.nio.file.Files;
import java.nio.file.Path;
import java.util.ArrayList;
import java.util.List;
import java.util.Set;
import java.util.TreeSet;
import java.util.regex.Matcher;
import java.util.regex.Pattern;
import java.util.stream.Stream;

/** README.md says how to use the class: its example must answer what it says, its table must have each call. */
public final class ReadmeTests {
    private static final Path README = Path.of("README.md");
    private static final Pattern CALL = Pattern.compile("panel\\.(\\w+)\\(([^()]*)\\); +// (-?\\d+): .*");
    private static final Pattern ROW = Pattern.compile("\\| `(\\w+)\\(([^()]*)\\)` \\| .+ \\|");
    private static int wrong = 0;

    private static void need(boolean holds, String what) {
        if (!holds) {
            wrong++;
            System.out.println("not so: " + what);
        }
    }

    private static Method methodOf(String name) {
        for (Method m : TripPanel.class.getDeclaredMethods()) {
            if (Modifier.isPublic(m.getModifiers()) && m.getName().equals(name)) {
                return m;
            }
        }
        return null;
    }

    private static String[] words(String list) {
        return list.isEmpty() ? new String[0] : list.split(", ");
    }

    private static int answer(TripPanel panel, Method method, String[] words) throws ReflectiveOperationException {
        Class<?>[] types = method.getParameterTypes();
        Object[] arguments = new Object[types.length];
        for (int i = 0; i < types.length; i++) {
            if (types[i] == boolean.class) {
                need(words[i].equals("true") || words[i].equals("false"), words[i] + " is a boolean");
                arguments[i] = words[i].equals("true");
            } else {
                arguments[i] = Integer.valueOf(words[i]);
            }
        }
        return (Integer) method.invoke(panel, arguments);
    }

    private static List<String> example(List<String> lines) {
        int start = lines.indexOf("```java") + 1;
        int end = lines.indexOf("```");
        need(start > 0 && end > start, "README.md has an example");
        return start > 0 && end > start ? lines.subList(start, end) : new ArrayList<>();
    }

    private static int exampleAnswers(List<String> lines) throws ReflectiveOperationException {
        TripPanel panel = new TripPanel();
        int calls = 0;
        for (String line : example(lines)) {
            Matcher call = CALL.matcher(line);
            if (!call.matches()) {
                need(line.equals("TripPanel panel = new TripPanel();"), "a call with its answer: " + line);
                continue;
            }
            Method method = methodOf(call.group(1));
            String[] words = words(call.group(2));
            boolean fits = method != null && method.getParameterCount() == words.length;
            need(fits, "a call of the face: " + line);
            if (fits) {
                int got = answer(panel, method, words);
                need(got == Integer.parseInt(call.group(3)), line + " (it answered " + got + ")");
                calls++;
            }
        }
        return calls;
    }

    private static void tableIsWhole(List<String> lines) {
        Set<String> told = new TreeSet<>();
        for (String line : lines) {
            Matcher row = ROW.matcher(line);
            if (row.matches()) {
                Method method = methodOf(row.group(1));
                need(method != null && method.getParameterCount() == words(row.group(2)).length,
                    "a call of the face: " + line);
                need(told.add(row.group(1)), row.group(1) + " stands once in the table");
            }
        }
        for (Method m : TripPanel.class.getDeclaredMethods()) {
            need(!Modifier.isPublic(m.getModifiers()) || told.contains(m.getName()), m.getName() + " is in the table");
        }
    }

    private static void testsAreNamed(List<String> lines) throws IOException {
        String text = String.join("\n", lines);
        need(text.contains(".ci/run"), "README.md says how to run the tests");
        try (Stream<Path> files = Files.list(Path.of("src/test/java"))) {
            files.map(f -> f.getFileName().toString().replace(".java", ""))
                .forEach(name -> need(text.contains("- `" + name + "`: "), "README.md tells what " + name + " tests"));
        }
    }

    public static void main(String[] args) throws Exception {
        List<String> lines = Files.readAllLines(README);
        int calls = exampleAnswers(lines);
        need(calls > 0, "the example has calls");
        tableIsWhole(lines);
        testsAreNamed(lines);
        System.out.println(wrong == 0 ? calls + " calls of the example are as told" : wrong + " things are not as told");
        if (wrong != 0) {
            System.exit(1);
        }
    }
}
