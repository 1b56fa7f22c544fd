import java.io.IOException;
import java.lang.reflect.Method;
import java.lang.reflect.Modifier;
import java.nio.charset.StandardCharsets;
import java.nio.file.Files;
import java.nio.file.Path;
import java.util.regex.Matcher;
import java.util.regex.Pattern;

/** README.md tells every call of the face, and its example answers what it says there. */
public final class ReadmeTest {
    /** A call of the example, and behind it, as the comment's first word, the answer. */
    private static final Pattern CALL = Pattern.compile("x\\.(\\w+)\\(([^)]*)\\); +// (true|false|-?\\d+)\\b.*");
    private static final Pattern OTHER = Pattern.compile("|MatchSeeker x = new MatchSeeker\\(\\);");

    private static final Checks CHECKS = new Checks();

    public static void main(String[] args) throws IOException, ReflectiveOperationException {
        String readme = Files.readString(Path.of("README.md"), StandardCharsets.UTF_8);
        everyCallIsTold(readme);
        example(readme);
        CHECKS.finish("ReadmeTest");
    }

    private static void everyCallIsTold(String readme) {
        for (Method m : MatchSeeker.class.getDeclaredMethods()) {
            if (Modifier.isPublic(m.getModifiers())) {
                CHECKS.due(m.getName() + " has a row of a table", readme.contains("\n| `" + m.getName() + "("), true);
            }
        }
    }

    private static void example(String readme) throws ReflectiveOperationException {
        String[] parts = readme.split("```java\n|```\n");
        CHECKS.due("there is an example", parts.length > 1, true);
        MatchSeeker x = new MatchSeeker();
        int calls = 0;
        for (String line : parts[1].split("\n")) {
            Matcher call = CALL.matcher(line);
            if (call.matches()) {
                calls++;
                String got = String.valueOf(answer(x, call.group(1), call.group(2)));
                CHECKS.due(line, got, call.group(3));
            } else {
                CHECKS.due("understood: " + line, OTHER.matcher(line).matches(), true);
            }
        }
        CHECKS.due("the example calls", calls > 0, true);
    }

    private static Object answer(MatchSeeker x, String name, String arguments) throws ReflectiveOperationException {
        String[] words = arguments.isEmpty() ? new String[0] : arguments.split(", ");
        for (Method m : MatchSeeker.class.getDeclaredMethods()) {
            if (m.getName().equals(name) && m.getParameterCount() == words.length) {
                Object[] given = new Object[words.length];
                for (int k = 0; k < words.length; k++) {
                    given[k] = number(words[k], m.getParameterTypes()[k]);
                }
                return m.invoke(x, given);
            }
        }
        return "no such call";
    }

    private static Object number(String word, Class<?> type) {
        long value = Long.decode(word.replace("L", ""));
        if (type == long.class) {
            return value;
        }
        return (int) value;
    }
}
