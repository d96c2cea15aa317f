import java.io.IOException;
import java.lang.reflect.Field;
import java.lang.reflect.Method;
import java.lang.reflect.Modifier;
import java.nio.file.Files;
import java.nio.file.Path;
import java.util.Set;
import java.util.TreeSet;
import java.util.regex.Matcher;
import java.util.regex.Pattern;

/** The examples of README.md answer as it says there, and it tells of each call and each constant. */
public final class ReadmeTest {
    private static final Pattern EXAMPLE = Pattern.compile("(?s)```java\n(.*?)```");
    private static final String START = "JoinGrants pool = new JoinGrants();";
    private static final Pattern CALL = Pattern.compile(
            "pool\\.(\\w+)\\(([^()]*)\\);\\s+// (-?\\d+|[A-Z_]+)(: .*)?");
    private static final Pattern TOLD_CALL = Pattern.compile("(?m)^\\| `(\\w+\\([^`]*\\))` \\| .* \\|$");
    private static final Pattern TOLD_CONSTANT = Pattern.compile("(?m)^\\| `([A-Z_]+)` \\| (-\\d+) \\| .* \\|$");
    private static final Checks CHECKS = new Checks();

    public static void main(String[] args) throws ReflectiveOperationException, IOException {
        CHECKS.of("README.md");
        String readme = Files.readString(Path.of("README.md"));
        examples(readme);
        calls(readme);
        constants(readme);
        CHECKS.end("ReadmeTest");
    }

    private static void due(String call, long got, long want) {
        CHECKS.due(call, got, want);
    }

    private static void examples(String readme) throws ReflectiveOperationException {
        Matcher examples = EXAMPLE.matcher(readme);
        int found = 0;
        while (examples.find()) {
            found++;
            String[] lines = examples.group(1).split("\n");
            due("\"" + START + "\" at first", lines[0].equals(START) ? 1 : 0, 1);
            JoinGrants pool = new JoinGrants();
            for (int i = 1; i < lines.length; i++) {
                callOf(pool, lines[i]);
            }
        }
        due("examples are found", found > 0 ? 1 : 0, 1);
    }

    private static void callOf(JoinGrants pool, String line) throws ReflectiveOperationException {
        Matcher call = CALL.matcher(line);
        if (!call.matches()) {
            due("a line that is a call with its answer: " + line, 0, 1);
            return;
        }
        String[] texts = call.group(2).isEmpty() ? new String[0] : call.group(2).split(", ");
        Object[] values = new Object[texts.length];
        Class<?>[] types = new Class<?>[texts.length];
        for (int i = 0; i < texts.length; i++) {
            boolean isCharacter = texts[i].matches("'.'");
            types[i] = isCharacter ? char.class : int.class;
            values[i] = isCharacter ? (Object) texts[i].charAt(1) : (Object) Integer.valueOf(texts[i]);
        }
        Method method = JoinGrants.class.getMethod(call.group(1), types);
        due(line, (int) method.invoke(pool, values), answerOf(call.group(3)));
    }

    private static int answerOf(String told) throws ReflectiveOperationException {
        return told.matches("-?\\d+") ? Integer.parseInt(told) : JoinGrants.class.getField(told).getInt(null);
    }

    private static void calls(String readme) {
        Set<String> due = new TreeSet<>(Set.of("JoinGrants 0"));
        for (Method method : JoinGrants.class.getDeclaredMethods()) {
            if (Modifier.isPublic(method.getModifiers())) {
                due.add(method.getName() + " " + method.getParameterCount());
            }
        }
        Set<String> told = new TreeSet<>();
        Matcher calls = TOLD_CALL.matcher(readme);
        while (calls.find()) {
            String[] parts = calls.group(1).split("[(), ]+");
            told.add(parts[0] + " " + (parts.length - 1));
        }
        due("the calls that are told, " + told + ", due are " + due, told.equals(due) ? 1 : 0, 1);
    }

    private static void constants(String readme) throws ReflectiveOperationException {
        Matcher constants = TOLD_CONSTANT.matcher(readme);
        Set<String> told = new TreeSet<>();
        while (constants.find()) {
            told.add(constants.group(1));
            due(constants.group(1), answerOf(constants.group(1)), Integer.parseInt(constants.group(2)));
        }
        for (Field field : JoinGrants.class.getFields()) {
            due(field.getName() + " is told", told.contains(field.getName()) ? 1 : 0, 1);
        }
    }
}
