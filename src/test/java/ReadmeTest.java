import java.io.IOException;
import java.lang.reflect.InvocationTargetException;
import java.lang.reflect.Method;
import java.lang.reflect.Modifier;
import java.nio.file.Files;
import java.nio.file.Path;
import java.util.Arrays;
import java.util.HashMap;
import java.util.Map;
import java.util.Set;
import java.util.TreeSet;
import java.util.regex.Matcher;
import java.util.regex.Pattern;

/** The example of README.md: each of its calls answers what stands behind it. */
public final class ReadmeTest {
    private static final String BEGIN = "```java\nByteShelf shelf = new ByteShelf();\n";
    private static final String END = "```";
    private static final Pattern CALL = Pattern.compile(
            "(?:int (\\w+) = )?shelf\\.(\\w+)\\((.*?)\\); +// (\\w+|-\\d+)(?::.*)?");

    private final Answers answers = new Answers();
    private final ByteShelf shelf = new ByteShelf();
    private final Map<String, Integer> variables = new HashMap<>();
    private final Set<String> called = new TreeSet<>();

    public static void main(String[] args) throws IOException {
        new ReadmeTest().run(Files.readString(Path.of("README.md")));
    }

    private void run(String readme) {
        int begin = readme.indexOf(BEGIN);
        if (begin < 0) {
            answers.wrong("README.md has no example that begins with a new ByteShelf");
        } else {
            String example = readme.substring(begin + BEGIN.length());
            example.substring(0, example.indexOf(END)).lines().forEach(this::runLine);
        }
        for (Method method : ByteShelf.class.getDeclaredMethods()) {
            if (Modifier.isPublic(method.getModifiers())) {
                String name = method.getName();
                answers.due("the example has " + name, called.contains(name), true);
            }
        }
        answers.end();
    }

    private void runLine(String line) {
        Matcher call = CALL.matcher(line);
        if (!call.matches()) {
            answers.wrong("no call with its answer: " + line);
            return;
        }
        Object answer = answer(call.group(2), numbers(call.group(3)));
        answers.due(line, String.valueOf(answer), due(call.group(4)));
        called.add(call.group(2));
        if (call.group(1) != null && answer instanceof Integer number) {
            variables.put(call.group(1), number);
        }
    }

    private Object[] numbers(String arguments) {
        return Arrays.stream(arguments.split(", *"))
                .filter(argument -> !argument.isEmpty())
                .map(argument -> variables.containsKey(argument)
                        ? variables.get(argument) : Integer.valueOf(argument))
                .toArray();
    }

    private Object answer(String name, Object[] numbers) {
        Class<?>[] types = new Class<?>[numbers.length];
        Arrays.fill(types, int.class);
        try {
            return ByteShelf.class.getMethod(name, types).invoke(shelf, numbers);
        } catch (NoSuchMethodException | IllegalAccessException closed) {
            return closed;
        } catch (InvocationTargetException thrown) {
            return thrown.getCause();
        }
    }

    private static String due(String written) {
        return switch (written) {
            case "NONE" -> Integer.toString(ByteShelf.NONE);
            case "FULL" -> Integer.toString(ByteShelf.FULL);
            default -> written;
        };
    }
}
