import java.io.IOException;
import java.lang.reflect.Method;
import java.nio.file.Files;
import java.nio.file.Path;
import java.util.regex.Matcher;
import java.util.regex.Pattern;

/** The examples of README.md (its path is the second argument): each call answers the number that stands behind it. */
public final class ReadmeTest {
    private static final Pattern CALL = Pattern.compile("x\\.(\\w+)\\(([^)]*)\\); +// (-?\\d+): .*");
    private static final Check CHECK = new Check();

    public static void main(String[] args) throws IOException, ReflectiveOperationException {
        boolean inExample = false;
        CueBoard x = null;
        for (String line : Files.readAllLines(Path.of(args[1]))) {
            if (line.startsWith("```")) {
                inExample = line.equals("```java");
                x = null;
            } else if (inExample && line.equals("CueBoard x = new CueBoard();")) {
                x = new CueBoard();
            } else if (inExample) {
                call(x, line);
            }
        }
        CHECK.end();
    }

    private static void call(CueBoard x, String line) throws ReflectiveOperationException {
        Matcher matcher = CALL.matcher(line);
        if (x == null || !matcher.matches()) {
            CHECK.due("not a call with its answer: " + line, 0, 1);
            return;
        }
        String[] words = matcher.group(2).isEmpty() ? new String[0] : matcher.group(2).split(", ");
        Method method = methodNamed(matcher.group(1));
        CHECK.due(line, (int) method.invoke(x, numbers(method, words)), Long.parseLong(matcher.group(3)));
    }

    private static Method methodNamed(String name) throws NoSuchMethodException {
        for (Method method : CueBoard.class.getMethods()) {
            if (method.getName().equals(name)) {
                return method;
            }
        }
        throw new NoSuchMethodException(name);
    }

    /** As its parameters want them, so that an example that does not compile fails here. */
    private static Object[] numbers(Method method, String[] words) {
        Class<?>[] types = method.getParameterTypes();
        Object[] numbers = new Object[words.length];
        for (int i = 0; i < words.length; i++) {
            if (i < types.length && types[i] == boolean.class) {
                numbers[i] = words[i].equals("true");
            } else {
                numbers[i] = words[i].equals("CueBoard.NONE") ? CueBoard.NONE : Integer.decode(words[i]);
            }
        }
        return numbers;
    }
}
