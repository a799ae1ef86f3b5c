import java.io.File;
import java.io.IOException;
import java.lang.reflect.Method;
import java.lang.reflect.Modifier;
import java.nio.file.Files;
import java.nio.file.Path;
import java.util.Set;
import java.util.TreeSet;
import java.util.regex.Matcher;
import java.util.regex.Pattern;

/** README.md as it stands: its calls answer what it says, and it names every test and every call. */
public final class ReadmeTest {
    private static final Checks CHECKS = new Checks();
    private static final Pattern BLOCK = Pattern.compile("(?s)```java\n(.*?)```");
    private static final Pattern TEXT = Pattern.compile("for \\(char sign : \"(.*)\"\\.toCharArray\\(\\)\\) \\{");
    private static final Pattern CALL = Pattern.compile("x\\.(\\w+)\\((.*?)\\); *// (-?\\d+):.*");
    private static final Pattern NAMED_TEST = Pattern.compile("(?m)^\\| `(\\w+)` \\|");
    private static final Set<String> PASSED_OVER = Set.of("", "x.write(1, sign);", "}");

    private ToldNineTimes x;
    private int calls;

    public static void main(String[] args) throws IOException {
        String readme = Files.readString(Path.of("README.md"));
        new ReadmeTest().examples(readme);
        everyTest(readme);
        everyCall(readme);
        CHECKS.end();
    }

    private void examples(String readme) {
        Matcher blocks = BLOCK.matcher(readme);
        while (blocks.find()) {
            for (String line : blocks.group(1).split("\n")) {
                follow(line.strip());
            }
        }
        CHECKS.dueAll("README.md shows calls", calls > 0);
    }

    private void follow(String line) {
        Matcher text = TEXT.matcher(line);
        Matcher call = CALL.matcher(line);
        if (line.equals("ToldNineTimes x = new ToldNineTimes();")) {
            x = new ToldNineTimes();
        } else if (text.matches()) {
            Checks.writeText(x, text.group(1));
        } else if (call.matches()) {
            calls++;
            CHECKS.due(line, answer(call.group(1), call.group(2)), Long.parseLong(call.group(3)));
        } else {
            CHECKS.dueAll("README.md: this is no call with its answer: " + line,
                PASSED_OVER.contains(line) || line.startsWith("//"));
        }
    }

    private long answer(String name, String arguments) {
        String[] told = arguments.isEmpty() ? new String[0] : arguments.split(", ");
        for (Method method : ToldNineTimes.class.getMethods()) {
            if (method.getName().equals(name) && method.getParameterCount() == told.length) {
                return answer(method, told);
            }
        }
        throw new IllegalStateException("README.md: there is no such call: " + name + "(" + arguments + ")");
    }

    private long answer(Method method, String[] told) {
        Object[] values = new Object[told.length];
        for (int i = 0; i < told.length; i++) {
            boolean truth = method.getParameterTypes()[i] == boolean.class;
            values[i] = truth ? (Object) Boolean.valueOf(told[i]) : (Object) Integer.valueOf(told[i]);
        }
        try {
            return ((Number) method.invoke(x, values)).longValue();
        } catch (ReflectiveOperationException e) {
            throw new IllegalStateException("README.md: " + method, e);
        }
    }

    private static void everyTest(String readme) {
        Set<String> named = new TreeSet<>();
        Matcher names = NAMED_TEST.matcher(readme);
        while (names.find()) {
            if (names.group(1).endsWith("Test")) {
                named.add(names.group(1));
            }
        }
        Set<String> there = new TreeSet<>();
        for (String file : new File("src/test/java").list()) {
            if (file.endsWith("Test.java")) {
                there.add(file.substring(0, file.length() - ".java".length()));
            }
        }
        CHECKS.dueAll("README.md names the tests " + there + ", not " + named, named.equals(there));
    }

    private static void everyCall(String readme) {
        for (Method method : ToldNineTimes.class.getDeclaredMethods()) {
            boolean face = Modifier.isPublic(method.getModifiers());
            boolean shown = readme.contains("x." + method.getName() + "(")
                || readme.contains("`" + method.getName() + "`");
            CHECKS.dueAll("README.md names " + method.getName(), !face || shown);
        }
    }
}
