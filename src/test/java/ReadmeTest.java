import java.io.IOException;
import java.lang.reflect.InvocationTargetException;
import java.lang.reflect.Method;
import java.nio.file.Files;
import java.nio.file.Path;
import java.util.regex.Matcher;
import java.util.regex.Pattern;

/** The calls that README.md tells, each with the answer that stands behind it. */
public final class ReadmeTest {
    private static final Pattern TOLD = Pattern.compile("tell\\(x, \"([^\"]*)\"\\);\\s*// (-?\\d+): .*");
    private static final Pattern ASKED = Pattern.compile("x\\.(\\w+)\\(([^)]*)\\);(?:\\s*// (-?\\d+): .*)?");

    public static void main(String[] args) throws IOException {
        LateFalls x = new LateFalls();
        int calls = 0;
        for (String line : Files.readAllLines(Path.of("README.md"))) {
            Matcher told = TOLD.matcher(line);
            Matcher asked = ASKED.matcher(line);
            if (told.matches()) {
                Check.due(line, Check.tell(x, told.group(1)), Long.parseLong(told.group(2)));
                calls++;
            } else if (asked.matches()) {
                ask(x, line, asked);
                calls++;
            } else if (line.startsWith("x.") || line.startsWith("tell(")) {
                Check.due("a call that can't be read: " + line, 1, 0);
            }
        }
        Check.due("calls found in README.md, 30 at least", Math.min(calls, 30), 30);
        Check.end();
    }

    private static void ask(LateFalls x, String line, Matcher asked) {
        Object answer = answerOf(x, asked.group(1), asked.group(2));
        if (asked.group(3) != null) {
            long got = answer instanceof Number ? ((Number) answer).longValue() : Long.MIN_VALUE;
            Check.due(line, got, Long.parseLong(asked.group(3)));
        } else {
            // Only what answers nothing may stand without an answer.
            Check.due("an answer told for " + line, answer == null ? 1 : 0, 1);
        }
    }

    private static Object answerOf(LateFalls x, String name, String told) {
        String[] words = told.isEmpty() ? new String[0] : told.split(", ");
        for (Method method : LateFalls.class.getDeclaredMethods()) {
            Class<?>[] types = method.getParameterTypes();
            if (method.getName().equals(name) && types.length == words.length) {
                Object[] values = new Object[words.length];
                for (int i = 0; i < words.length; i++) {
                    values[i] = valueOf(words[i], types[i]);
                }
                try {
                    return method.invoke(x, values);
                } catch (InvocationTargetException | IllegalAccessException e) {
                    return "thrown";
                }
            }
        }
        return "no such call";
    }

    private static Object valueOf(String word, Class<?> type) {
        if (type == boolean.class) {
            return Boolean.valueOf(word);
        }
        if (type == long.class) {
            return Long.valueOf(word);
        }
        return Integer.valueOf(word);
    }
}
