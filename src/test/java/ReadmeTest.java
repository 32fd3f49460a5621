import java.io.File;
import java.io.IOException;
import java.lang.reflect.InvocationTargetException;
import java.lang.reflect.Method;
import java.lang.reflect.Modifier;
import java.nio.charset.StandardCharsets;
import java.nio.file.Files;
import java.nio.file.Path;
import java.util.ArrayList;
import java.util.HashMap;
import java.util.HashSet;
import java.util.List;
import java.util.Map;
import java.util.Set;
import java.util.regex.Matcher;
import java.util.regex.Pattern;

/** Makes the calls of README.md's java blocks, in their order, and compares what they answer with what stands there. */
public final class ReadmeTest {
    private static final Path FILE = Path.of("README.md");
    private static final Pattern MAKING = Pattern.compile("FatigueMenus (\\w+) = new FatigueMenus\\(\\);");
    private static final Pattern CALL = Pattern.compile(
            "(?:int (\\w+) = )?(\\w+)\\.(\\w+)\\(([^)]*)\\); +// (throws \\w+|-?\\d+(?:\\.\\d+)?)(?:: .+)?");

    private final Map<String, FatigueMenus> objects = new HashMap<>();
    private final Map<String, Integer> numbers = new HashMap<>();
    private final Set<String> called = new HashSet<>();

    private static List<String> javaLines(String text) {
        List<String> lines = new ArrayList<>();
        Matcher block = Pattern.compile("^```java\n(.*?)^```$", Pattern.MULTILINE | Pattern.DOTALL).matcher(text);
        while (block.find()) {
            lines.addAll(List.of(block.group(1).split("\n")));
        }
        return lines;
    }

    private void run(String line) throws IllegalAccessException {
        Matcher making = MAKING.matcher(line);
        Matcher call = CALL.matcher(line);
        if (making.matches()) {
            objects.put(making.group(1), new FatigueMenus());
        } else if (call.matches() && objects.containsKey(call.group(2))) {
            called.add(call.group(3));
            String answer = answerOf(objects.get(call.group(2)), call.group(3), call.group(4));
            Check.tell(line, call.group(5), answer);
            if (call.group(1) != null && answer.matches("-?\\d+")) {
                numbers.put(call.group(1), Integer.valueOf(answer));
            }
        } else {
            Check.tell(line, "a call with its answer", "a line of another form");
        }
    }

    private String answerOf(FatigueMenus object, String name, String arguments) throws IllegalAccessException {
        Object[] values = arguments.isEmpty() ? new Object[0] : valuesOf(arguments.split(", "));
        for (Method method : FatigueMenus.class.getDeclaredMethods()) {
            if (Modifier.isPublic(method.getModifiers()) && method.getName().equals(name)
                    && method.getParameterCount() == values.length) {
                try {
                    return String.valueOf(method.invoke(object, values));
                } catch (InvocationTargetException e) {
                    return "throws " + e.getCause().getClass().getSimpleName();
                }
            }
        }
        return "nothing: there is no such call";
    }

    private Object[] valuesOf(String[] arguments) {
        Object[] values = new Object[arguments.length];
        for (int k = 0; k < arguments.length; k++) {
            String argument = arguments[k];
            if (argument.matches("'.'")) {
                values[k] = (int) argument.charAt(1);
            } else if (numbers.containsKey(argument)) {
                values[k] = numbers.get(argument);
            } else {
                values[k] = Integer.valueOf(argument);
            }
        }
        return values;
    }

    private void noCallIsLeftOut() {
        for (Method method : FatigueMenus.class.getDeclaredMethods()) {
            if (Modifier.isPublic(method.getModifiers())) {
                Check.tell(method.getName() + " in README.md", "called", called.contains(method.getName()) ? "called" : "not called");
            }
        }
    }

    private static void testsAreTold(String text) {
        Check.tell("how the tests are run", "told", text.contains("\nbash .ci/run\n") ? "told" : "not told");
        File[] files = new File("src/test/java").listFiles((folder, name) -> name.endsWith(".java"));
        for (File file : files == null ? new File[0] : files) {
            Check.tell(file.getName() + " in README.md", "told", text.contains("`" + file.getName() + "`") ? "told" : "not told");
        }
    }

    public static void main(String[] args) throws IOException, IllegalAccessException {
        String text = Files.readString(FILE, StandardCharsets.US_ASCII);
        ReadmeTest test = new ReadmeTest();
        for (String line : javaLines(text)) {
            test.run(line);
        }
        test.noCallIsLeftOut();
        testsAreTold(text);
        Check.finish("ReadmeTest");
    }
}
