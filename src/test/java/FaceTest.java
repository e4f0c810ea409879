import java.lang.reflect.Constructor;
import java.lang.reflect.Field;
import java.lang.reflect.Method;
import java.lang.reflect.Modifier;
import java.util.Set;
import java.util.TreeSet;

/** The public face is the document's, and nothing else can be seen from outside. */
public final class FaceTest {
    private static final Set<String> FACE = Set.of(
            "long write(int,long) IndexOutOfBoundsException",
            "long read(int) IndexOutOfBoundsException",
            "long register(int) IndexOutOfBoundsException",
            "void put(int,long) IndexOutOfBoundsException",
            "void start(int) IllegalArgumentException",
            "int run(int) IllegalArgumentException",
            "int stopped()",
            "int place()",
            "long cycles()",
            "int done(int) IllegalArgumentException",
            "long waited(int) IllegalArgumentException");

    public static void main(String[] args) {
        Class<?> core = ScoreboardCore.class;
        dueTrue("the class is public and final",
                Modifier.isPublic(core.getModifiers()) && Modifier.isFinal(core.getModifiers()));
        Set<String> seen = new TreeSet<>();
        for (Method method : core.getDeclaredMethods()) {
            if (Modifier.isPublic(method.getModifiers())) {
                seen.add(signature(method));
            } else {
                dueTrue(method.getName() + " is private", Modifier.isPrivate(method.getModifiers()));
            }
        }
        dueTrue("the public methods are the document's: " + seen, seen.equals(FACE));
        for (Constructor<?> constructor : core.getDeclaredConstructors()) {
            dueTrue("the constructor is public, without parameters",
                    Modifier.isPublic(constructor.getModifiers()) && constructor.getParameterCount() == 0);
        }
        for (Field field : core.getDeclaredFields()) {
            dueTrue(field.getName() + " is private", Modifier.isPrivate(field.getModifiers()));
        }
        for (Class<?> inside : core.getDeclaredClasses()) {
            dueInside(inside);
        }
        Check.end();
    }

    /** LANGUAGE.md, rule 1: classes inside are static and not public, and no method bears the name of a public one. */
    private static void dueInside(Class<?> inside) {
        int modifiers = inside.getModifiers();
        dueTrue(inside.getSimpleName() + " is static", Modifier.isStatic(modifiers));
        dueTrue(inside.getSimpleName() + " is not public", !Modifier.isPublic(modifiers));
        for (Method method : inside.getDeclaredMethods()) {
            for (String one : FACE) {
                dueTrue(inside.getSimpleName() + "." + method.getName() + " has a name of its own",
                        !one.contains(" " + method.getName() + "("));
            }
        }
    }

    private static void dueTrue(String what, boolean holds) {
        Check.due(what, holds ? 1 : 0, 1);
    }

    private static String signature(Method method) {
        StringBuilder text = new StringBuilder();
        for (Class<?> type : method.getParameterTypes()) {
            text.append(text.length() == 0 ? "" : ",").append(type.getName());
        }
        text.append(")");
        for (Class<?> type : method.getExceptionTypes()) {
            text.append(" ").append(type.getSimpleName());
        }
        return method.getReturnType() + " " + method.getName() + "(" + text;
    }
}
