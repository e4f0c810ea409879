import java.io.IOException;
import java.lang.reflect.Field;
import java.lang.reflect.Method;
import java.lang.reflect.Modifier;
import java.nio.file.Files;
import java.nio.file.Path;
import java.util.ArrayList;
import java.util.List;
import java.util.Set;
import java.util.regex.Matcher;
import java.util.regex.Pattern;

/** Those of LANGUAGE.md's rules that can be seen from the class file, or from single words of the source. */
public final class LanguageTest {
    private static final String SOURCE = "src/main/java/ScoreboardCore.java";
    private static final Set<Class<?>> CONSTANTS = Set.of(int.class, long.class, boolean.class, char.class, String.class,
            int[].class, long[].class, char[].class, byte[].class);
    /** Dotted names of the library that rule 4 has, as far as the class uses it. */
    private static final Set<String> LIBRARY = Set.of("Arrays.fill", "System.arraycopy", "Math.max", "Math.min",
            "Long.bitCount", "Long.compare");
    private static final Set<String> LIBRARY_CLASSES = Set.of("Arrays", "System", "Math", "Long", "Integer", "String",
            "Character", "Thread", "Runtime", "Object", "Double", "Float", "Boolean", "Short", "Byte");
    private static final Set<String> EXCEPTIONS = Set.of("IndexOutOfBoundsException", "IllegalArgumentException");

    public static void main(String[] args) throws IOException {
        List<Class<?>> classes = new ArrayList<>(List.of(ScoreboardCore.class.getDeclaredClasses()));
        classes.add(ScoreboardCore.class);
        dueTrue("rule 11: at most twelve classes", classes.size() <= 12);
        for (Class<?> one : classes) {
            dueClass(one);
        }
        dueSource(withoutComments(Files.readString(Path.of(SOURCE))));
        Check.end();
    }

    private static void dueClass(Class<?> one) {
        int fields = 0;
        for (Field field : one.getDeclaredFields()) {
            String name = one.getSimpleName() + "." + field.getName();
            if (Modifier.isStatic(field.getModifiers())) {
                dueTrue("rule 5: " + name + " is final", Modifier.isFinal(field.getModifiers()));
                dueTrue("rule 5: " + name + " is a constant", CONSTANTS.contains(field.getType()));
            } else {
                fields++;
            }
        }
        dueTrue("rule 11: at most twenty fields in " + one.getSimpleName(), fields <= 20);
        for (Method method : one.getDeclaredMethods()) {
            dueTrue("rule 11: at most seven parameters of " + method.getName(), method.getParameterCount() <= 7);
        }
    }

    private static void dueSource(String source) {
        dueNone("no package, one import", source, "(?m)^package |^import (?!java\\.util\\.Arrays;)");
        dueNone("rule 2: no lambda, no method reference", source, "->|::");
        dueNone("rule 3: no double, no float", source, "\\b(double|float)\\b");
        dueNone("rule 5: no static initialiser", source, "\\bstatic\\s*\\{");
        dueNone("rule 6", source, "\\b(try|catch|finally|synchronized|assert|instanceof|equals|hashCode|toString)\\b");
        dueNone("rule 13", source, "\\b(native|volatile|transient|Thread|Random|Runtime)\\b");
        for (String thrown : found(source, "throw new (\\w+)\\(\\);")) {
            dueTrue("rule 6: " + thrown, EXCEPTIONS.contains(thrown));
        }
        dueTrue("rule 6: every throw is throw new E()",
                found(source, "\\b(throw)\\b").size() == found(source, "throw new (\\w+)\\(\\);").size());
        for (String name : found(source, "\\b([A-Z]\\w*\\.\\w+)\\b")) {
            boolean own = !LIBRARY_CLASSES.contains(name.substring(0, name.indexOf('.')));
            dueTrue("rule 4: " + name, own || LIBRARY.contains(name));
        }
    }

    private static void dueNone(String rule, String source, String pattern) {
        Matcher matcher = Pattern.compile(pattern).matcher(source);
        boolean none = !matcher.find();
        dueTrue(rule + (none ? "" : ": " + matcher.group()), none);
    }

    private static List<String> found(String source, String pattern) {
        List<String> all = new ArrayList<>();
        Matcher matcher = Pattern.compile(pattern).matcher(source);
        while (matcher.find()) {
            all.add(matcher.group(1));
        }
        return all;
    }

    private static String withoutComments(String source) {
        return source.replaceAll("(?s)/\\*.*?\\*/", "").replaceAll("//[^\n]*", "");
    }

    private static void dueTrue(String what, boolean holds) {
        Check.due(what, holds ? 1 : 0, 1);
    }
}
