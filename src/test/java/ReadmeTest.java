import java.io.IOException;
import java.lang.reflect.InvocationTargetException;
import java.lang.reflect.Method;
import java.lang.reflect.Modifier;
import java.nio.file.Files;
import java.nio.file.Path;
import java.util.HashSet;
import java.util.Set;
import java.util.regex.Matcher;
import java.util.regex.Pattern;

/** Makes the calls of README.md's examples: each answer must be the one that stands behind its "//". */
public final class ReadmeTest {
    private static final String FIRST_LINE = "CloudBeams x = new CloudBeams();";
    private static final Pattern CALL = Pattern.compile("x\\.(\\w+)\\((.*)\\); +// (-?[\\w.]+)(:.*)?");
    private static final Pattern CHARACTER = Pattern.compile("'(.)'");

    private static final CloudBeams x = new CloudBeams();
    private static final Set<String> shown = new HashSet<>();

    private static void examples() throws IOException {
        boolean isInside = false;
        for (String line : Files.readAllLines(Path.of("README.md"))) {
            if (line.startsWith("```")) {
                isInside = line.equals("```java");
            } else if (isInside && !line.equals(FIRST_LINE)) {
                example(line);
            }
        }
    }

    private static void example(String line) {
        Matcher call = CALL.matcher(line);
        Check.same("the line '" + line + "' is a call with its answer", 1, call.matches() ? 1 : 0);
        if (call.matches()) {
            shown.add(call.group(1));
            Check.sameText(line, call.group(3), answer(call.group(1), numbers(call.group(2))));
        }
    }

    private static Object[] numbers(String texts) {
        if (texts.isEmpty()) {
            return new Object[0];
        }
        String[] each = texts.split(", ");
        Object[] numbers = new Object[each.length];
        for (int i = 0; i < each.length; i++) {
            Matcher character = CHARACTER.matcher(each[i]);
            numbers[i] = character.matches() ? (int) character.group(1).charAt(0) : Integer.parseInt(each[i]);
        }
        return numbers;
    }

    private static String answer(String name, Object[] numbers) {
        for (Method method : CloudBeams.class.getMethods()) {
            if (method.getName().equals(name) && method.getParameterCount() == numbers.length) {
                return answer(method, numbers);
            }
        }
        return "no such call";
    }

    private static String answer(Method method, Object[] numbers) {
        try {
            Object answer = method.invoke(x, numbers);
            return answer.equals(CloudBeams.NONE) ? "NONE" : answer.toString();
        } catch (InvocationTargetException e) {
            return e.getCause().getClass().getSimpleName();
        } catch (IllegalAccessException e) {
            return "no access";
        }
    }

    private static void everyCallIsShown() {
        for (Method method : CloudBeams.class.getDeclaredMethods()) {
            if (Modifier.isPublic(method.getModifiers())) {
                Check.same("README.md shows " + method.getName() + "()", 1, shown.contains(method.getName()) ? 1 : 0);
            }
        }
    }

    public static void main(String[] args) throws IOException {
        examples();
        everyCallIsShown();
        Check.end();
    }
}
