import java.io.IOException;
import java.lang.reflect.Method;
import java.lang.reflect.Modifier;
import java.nio.file.Files;
import java.nio.file.Path;
import java.util.HashMap;
import java.util.List;
import java.util.Map;
import java.util.regex.Matcher;
import java.util.regex.Pattern;

/** README.md: its example answers what its comments say, and it names every call and constant. */
public final class ReadmeTest {
    /** A line such as: int third = disk.read(12, 4);   // 2: and why */
    private static final Pattern CALL =
            Pattern.compile("(?:int (\\w+) = )?disk\\.(\\w+)\\((.*?)\\);\\s+// (-?\\w+): .*");

    private static final Check check = new Check();

    private final DeadlineElevator disk = new DeadlineElevator();
    private final Map<String, Integer> names = new HashMap<>();

    public static void main(String[] args) throws IOException, ReflectiveOperationException {
        List<String> lines = Files.readAllLines(Path.of("README.md"));
        new ReadmeTest().theExample(lines.subList(lines.indexOf("```java") + 1, lines.size()));
        everyCallIsNamed(lines);
        check.end();
    }

    private void theExample(List<String> lines) throws ReflectiveOperationException {
        check.due("the first line makes an object",
                lines.get(0).equals("DeadlineElevator disk = new DeadlineElevator();"), true);
        List<String> calls = lines.subList(1, lines.indexOf("```"));
        check.due("there are calls", calls.isEmpty(), false);
        for (String line : calls) {
            Matcher call = CALL.matcher(line);
            check.due("a call and its answer: " + line, call.matches(), true);
            if (call.matches()) {
                Object answer = answerOf(call.group(2), call.group(3));
                check.due(line + " answered " + answer, answer.toString().equals(call.group(4)), true);
                if (call.group(1) != null) {
                    names.put(call.group(1), (Integer) answer);
                }
            }
        }
    }

    private Object answerOf(String name, String text) throws ReflectiveOperationException {
        String[] texts = text.isEmpty() ? new String[0] : text.split(", ");
        Class<?>[] types = new Class<?>[texts.length];
        Object[] arguments = new Object[texts.length];
        for (int i = 0; i < texts.length; i++) {
            types[i] = int.class;
            Integer named = names.get(texts[i]);
            arguments[i] = named != null ? named : Integer.valueOf(texts[i]);
        }
        return DeadlineElevator.class.getMethod(name, types).invoke(disk, arguments);
    }

    /** The table of calls has a row for each, with as many arguments as it takes. */
    private static void everyCallIsNamed(List<String> lines) {
        for (Method method : DeadlineElevator.class.getDeclaredMethods()) {
            if (Modifier.isPublic(method.getModifiers())) {
                int commas = Math.max(0, method.getParameterCount() - 1);
                String words = method.getParameterCount() == 0 ? "" : "\\w+" + ", \\w+".repeat(commas);
                String row = "\\| `" + method.getName() + "\\(" + words + "\\)` \\|.*";
                check.due("a row for " + method, lines.stream().anyMatch(line -> line.matches(row)), true);
            }
        }
        String constants = "`NONE` is " + DeadlineElevator.NONE + ", `FULL` is " + DeadlineElevator.FULL;
        check.due(constants, lines.stream().anyMatch(line -> line.contains(constants)), true);
    }
}
