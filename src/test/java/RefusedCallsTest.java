import java.util.ArrayList;
import java.util.List;

/**
 * "A call that throws changes nothing": of two machines with the same calls one is given a refused call as well; it
 * throws what its promise names, and all later answers of both are the same. Right at the edge nothing is refused.
 */
public final class RefusedCallsTest {
    /** A call of one method with an argument that may be wrong. */
    private interface Call {
        void make(ScoreboardCore core, int argument);
    }

    private static final class Method {
        final String name;
        final Class<? extends RuntimeException> refusal;
        final int lowest;
        final int highest;
        final Call call;

        Method(String name, Class<? extends RuntimeException> refusal, int lowest, int highest, Call call) {
            this.name = name;
            this.refusal = refusal;
            this.lowest = lowest;
            this.highest = highest;
            this.call = call;
        }
    }

    /** With what the machine is stopped in each state that the calls are tried in. */
    private static final int[] STATES = {3, 3, 3, 0, 1, 2};
    private static final int PARTS = 4;

    public static void main(String[] args) {
        for (int state = 0; state < STATES.length; state++) {
            Check.due("stopped() in state " + state, machineIn(state).stopped(), STATES[state]);
        }
        for (Method method : methods()) {
            for (int state = 0; state < STATES.length; state++) {
                allowedAtTheEdges(method, state);
                for (int argument : wrongArguments(method)) {
                    for (int part = 0; part < PARTS; part++) {
                        compare(method, argument, state, part);
                    }
                }
            }
        }
        Check.end();
    }

    private static List<Method> methods() {
        Class<IndexOutOfBoundsException> outside = IndexOutOfBoundsException.class;
        Class<IllegalArgumentException> illegal = IllegalArgumentException.class;
        List<Method> all = new ArrayList<>();
        all.add(new Method("write", outside, 0, 511, (core, argument) -> core.write(argument, 0123)));
        all.add(new Method("read", outside, 0, 511, (core, argument) -> core.read(argument)));
        all.add(new Method("register", outside, 0, 23, (core, argument) -> core.register(argument)));
        all.add(new Method("put", outside, 0, 23, (core, argument) -> core.put(argument, 0123)));
        all.add(new Method("start", illegal, 0, 511, (core, argument) -> core.start(argument)));
        all.add(new Method("run", illegal, 0, 2000, (core, argument) -> core.run(argument)));
        all.add(new Method("done", illegal, 0, 7, (core, argument) -> core.done(argument)));
        all.add(new Method("waited", illegal, 0, 4, (core, argument) -> core.waited(argument)));
        return all;
    }

    private static int[] wrongArguments(Method method) {
        return new int[] {method.lowest - 1, method.highest + 1, Integer.MIN_VALUE, Integer.MAX_VALUE};
    }

    private static void allowedAtTheEdges(Method method, int state) {
        for (int argument : new int[] {method.lowest, method.highest}) {
            Check.dueNoThrow(method.name + "(" + argument + ") in state " + state,
                    () -> method.call.make(machineIn(state), argument));
        }
    }

    /** New, in the middle of a word, behind a loop that went on, and stopped with 0, 1 and 2. */
    private static ScoreboardCore machineIn(int state) {
        ScoreboardCore core = new ScoreboardCore();
        if (state == 0) {
            return core;
        }
        String[] ends = {"", "00000", "0400000000", "00000", "30000", "0400001000"};
        Program.lay(core, 0, "56110", "47077", "12302", "36244", "47511", "53700", "56320", "0310000003");
        Program.lay(core, 3, "6112000003", "0410000003", "0100000005");
        Program.lay(core, 6, ends[state]);
        core.write(511, 0777);
        for (int k = 0; k < 24; k++) {
            core.put(k, 500 + k);
        }
        core.run(state == 1 ? 6 : 40);
        return core;
    }

    private static void compare(Method method, int argument, int state, int part) {
        ScoreboardCore plain = machineIn(state);
        ScoreboardCore refused = machineIn(state);
        String what = method.name + "(" + argument + ") in state " + state;
        Check.dueThrow(what, method.refusal, () -> method.call.make(refused, argument));
        Check.dueThrow(what + " again", method.refusal, () -> method.call.make(refused, argument));
        compareAnswers(what, plain, refused);
        Check.due(what + ": run(3)", refused.run(3), plain.run(3));
        compareAnswers(what + ", run(3)", plain, refused);
        plain.start(3);
        refused.start(3);
        Check.due(what + ": run(30)", refused.run(30), plain.run(30));
        compareAnswers(what + ", start(3), run(30)", plain, refused);
        for (int address = 128 * part; address < 128 * part + 128; address++) {
            Check.dueOctal(what + ": read(" + address + ")", refused.read(address), plain.read(address));
        }
    }

    private static void compareAnswers(String what, ScoreboardCore plain, ScoreboardCore refused) {
        Check.due(what + ": stopped()", refused.stopped(), plain.stopped());
        Check.due(what + ": place()", refused.place(), plain.place());
        Check.due(what + ": cycles()", refused.cycles(), plain.cycles());
        for (int unit = 0; unit < 8; unit++) {
            Check.due(what + ": done(" + unit + ")", refused.done(unit), plain.done(unit));
        }
        for (int kind = 0; kind < 5; kind++) {
            Check.due(what + ": waited(" + kind + ")", refused.waited(kind), plain.waited(kind));
        }
        for (int k = 0; k < 24; k++) {
            Check.dueOctal(what + ": register(" + k + ")", refused.register(k), plain.register(k));
        }
    }
}
