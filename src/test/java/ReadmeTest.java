import java.io.IOException;
import java.lang.reflect.Method;
import java.lang.reflect.Modifier;
import java.nio.file.Files;
import java.nio.file.Path;
import java.util.HashMap;
import java.util.List;
import java.util.Map;
import java.util.regex.Matcher;
import java.util.regex.Pattern;

/** README.md's run is made line by line from its own text, so that what it says cannot grow old. */
public final class ReadmeTest {
    private static final Checks CHECKS = new Checks();
    private static final Pattern NEW = Pattern.compile("KindTables tables = new KindTables\\((.*)\\);.*");
    private static final Pattern CALL =
            Pattern.compile("(?:int (\\w+) = )?tables\\.(\\w+)\\((.*?)\\); *// (true|false|-?\\d+)\\b.*");

    private final Map<String, Integer> names = new HashMap<>(Map.of("KindTables.NONE", KindTables.NONE));
    private KindTables tables;

    public static void main(String[] args) throws IOException, ReflectiveOperationException {
        List<String> lines = Files.readAllLines(Path.of("README.md"));
        CHECKS.due("README.md has calls to run", true, new ReadmeTest().run(lines) > 0);
        eachCallIsNamed(lines);
        eachTestIsNamed(lines);
        CHECKS.end();
    }

    private int run(List<String> lines) throws ReflectiveOperationException {
        int calls = 0;
        int begin = lines.indexOf("```java") + 1;
        for (int i = begin; begin > 0 && i < lines.size() && !lines.get(i).equals("```"); i++) {
            Matcher made = NEW.matcher(lines.get(i));
            Matcher call = CALL.matcher(lines.get(i));
            if (made.matches()) {
                int[] numbers = numbers(made.group(1));
                tables = new KindTables(numbers[0], numbers[1]);
            } else if (call.matches()) {
                answer(call);
                calls++;
            } else {
                CHECKS.due("understood: " + lines.get(i), true, lines.get(i).isEmpty());
            }
        }
        return calls;
    }

    private void answer(Matcher call) throws ReflectiveOperationException {
        int[] numbers = numbers(call.group(3));
        Object[] given = new Object[numbers.length];
        Class<?>[] types = new Class<?>[numbers.length];
        for (int i = 0; i < numbers.length; i++) {
            given[i] = numbers[i];
            types[i] = int.class;
        }
        Object got = KindTables.class.getMethod(call.group(2), types).invoke(tables, given);
        String text = "README.md: " + call.group() + " but it answered " + got;
        CHECKS.due(text, true, got.toString().equals(call.group(4)));
        if (call.group(1) != null) {
            names.put(call.group(1), (Integer) got);
        }
    }

    private int[] numbers(String arguments) {
        String[] words = arguments.split(", *");
        int[] numbers = new int[words.length];
        for (int i = 0; i < words.length; i++) {
            numbers[i] = names.containsKey(words[i]) ? names.get(words[i]) : Integer.parseInt(words[i]);
        }
        return numbers;
    }

    private static void eachCallIsNamed(List<String> lines) {
        for (Method one : KindTables.class.getDeclaredMethods()) {
            if (Modifier.isPublic(one.getModifiers())) {
                String row = "| `" + one.getName() + "(";
                CHECKS.due("README.md names " + one.getName(), true, lines.stream().anyMatch(l -> l.startsWith(row)));
            }
        }
    }

    private static void eachTestIsNamed(List<String> lines) throws IOException {
        try (var files = Files.newDirectoryStream(Path.of("src/test/java"), "*Test.java")) {
            for (Path file : files) {
                String name = "`" + file.getFileName().toString().replace(".java", "") + "`";
                CHECKS.due("README.md names " + name, true, lines.stream().anyMatch(l -> l.contains(name)));
            }
        }
    }
}
