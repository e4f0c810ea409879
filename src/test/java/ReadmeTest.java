import java.io.IOException;
import java.lang.reflect.InvocationTargetException;
import java.lang.reflect.Method;
import java.lang.reflect.Modifier;
import java.nio.file.Files;
import java.nio.file.Path;
import java.util.Set;
import java.util.TreeSet;
import java.util.regex.Matcher;
import java.util.regex.Pattern;

/** Makes the calls of README.md's example, one after the other, and compares the answers that stand behind them. */
public final class ReadmeTest {
    private static final Pattern EXAMPLE = Pattern.compile("```java\n(.*?)```", Pattern.DOTALL);
    private static final Pattern CALL = Pattern.compile("core\\.(\\w+)\\((.*?)\\);\\s*// (throws \\w+|void|-?\\d+)\\b.*");
    private static final String NEW_OBJECT = "ScoreboardCore core = new ScoreboardCore();";

    public static void main(String[] args) throws IOException, IllegalAccessException {
        Matcher example = EXAMPLE.matcher(Files.readString(Path.of("README.md")));
        Check.due("README.md has an example", example.find() ? 1 : 0, 1);
        String[] lines = example.group(1).split("\n");
        Check.due("the example begins with a new object", lines[0].equals(NEW_OBJECT) ? 1 : 0, 1);
        ScoreboardCore core = new ScoreboardCore();
        Set<String> called = new TreeSet<>();
        for (int n = 1; n < lines.length; n++) {
            if (!lines[n].isEmpty()) {
                called.add(dueCall(core, lines[n]));
            }
        }
        for (Method method : ScoreboardCore.class.getDeclaredMethods()) {
            if (Modifier.isPublic(method.getModifiers())) {
                Check.due("the example has " + method.getName(), called.contains(method.getName()) ? 1 : 0, 1);
            }
        }
        Check.end();
    }

    /** Answers the name of the method that the line calls. */
    private static String dueCall(ScoreboardCore core, String line) throws IllegalAccessException {
        Matcher call = CALL.matcher(line);
        if (!call.matches()) {
            Check.due("a line with a call and its answer: " + line, 0, 1);
            return "";
        }
        String answer = answer(core, call.group(1), call.group(2));
        Check.due(line + " got " + answer, answer.equals(call.group(3)) ? 1 : 0, 1);
        return call.group(1);
    }

    private static String answer(ScoreboardCore core, String name, String arguments) throws IllegalAccessException {
        Method method = methodOf(name);
        if (method == null) {
            return "no such method";
        }
        try {
            Object answer = method.invoke(core, values(method, arguments));
            return method.getReturnType() == void.class ? "void" : answer.toString();
        } catch (InvocationTargetException e) {
            return "throws " + e.getCause().getClass().getSimpleName();
        }
    }

    private static Method methodOf(String name) {
        for (Method method : ScoreboardCore.class.getDeclaredMethods()) {
            if (Modifier.isPublic(method.getModifiers()) && method.getName().equals(name)) {
                return method;
            }
        }
        return null;
    }

    private static Object[] values(Method method, String arguments) {
        Class<?>[] types = method.getParameterTypes();
        String[] texts = arguments.isEmpty() ? new String[0] : arguments.split(", ");
        Object[] values = new Object[texts.length];
        for (int n = 0; n < texts.length; n++) {
            long value = Long.decode(texts[n].replace("_", "").replace("L", ""));
            if (n < types.length && types[n] == int.class) {
                values[n] = (int) value;
            } else {
                values[n] = value;
            }
        }
        return values;
    }
}
