import java.util.ArrayList;
import java.util.List;

/** Collects the answers that are not as due; a test ends with exit code 1 if there was one. */
final class Check {
    private static final List<String> WRONG = new ArrayList<>();

    private Check() {
    }

    interface Call {
        void make();
    }

    static void due(String what, long got, long want) {
        if (got != want) {
            WRONG.add(what + " answered " + got + ", due is " + want);
        }
    }

    static void dueOctal(String what, long got, long want) {
        if (got != want) {
            WRONG.add(what + " answered " + Long.toOctalString(got) + ", due is " + Long.toOctalString(want)
                    + " (base 8)");
        }
    }

    static void dueThrow(String what, Class<? extends RuntimeException> want, Call call) {
        try {
            call.make();
            WRONG.add(what + " threw nothing, due is " + want.getSimpleName());
        } catch (RuntimeException e) {
            if (e.getClass() != want) {
                WRONG.add(what + " threw " + e.getClass().getSimpleName() + ", due is " + want.getSimpleName());
            }
        }
    }

    static void dueNoThrow(String what, Call call) {
        try {
            call.make();
        } catch (RuntimeException e) {
            WRONG.add(what + " threw " + e.getClass().getSimpleName() + ", due is that it does not");
        }
    }

    static void end() {
        for (String line : WRONG) {
            System.out.println(line);
        }
        if (!WRONG.isEmpty()) {
            System.exit(1);
        }
    }
}
