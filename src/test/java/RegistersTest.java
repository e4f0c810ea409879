/** Promises 4 and 5: register, put. */
public final class RegistersTest {
    public static void main(String[] args) {
        ordinary();
        lowestBits();
        noMemory();
        wrongNumbers();
        Check.end();
    }

    private static void ordinary() {
        ScoreboardCore core = new ScoreboardCore();
        for (int k = 0; k < 24; k++) {
            core.put(k, 100 + k);
        }
        for (int k = 0; k < 24; k++) {
            Check.due("register(" + k + ")", core.register(k), k == 16 ? 0 : 100 + k);
        }
        // X2 becomes A3 + B4 + 0: the numbers are X, A, B in this order.
        Program.lay(core, 0, "74234");
        core.run(1);
        Check.due("X2", core.register(2), 111 + 120);
    }

    private static void lowestBits() {
        ScoreboardCore core = new ScoreboardCore();
        for (int k = 0; k < 24; k++) {
            core.put(k, -1);
            long want = k < 8 ? Program.MINUS_ZERO : k == 16 ? 0 : Program.SHORT_MINUS_ZERO;
            Check.dueOctal("register(" + k + ")", core.register(k), want);
        }
        core.put(7, 1L << 60 | 1L << 59);
        Check.dueOctal("register(7)", core.register(7), 1L << 59);
        core.put(8, 1L << 18 | 1L << 17);
        Check.dueOctal("register(8)", core.register(8), 1L << 17);
        core.put(23, 1L << 40 | 5);
        Check.dueOctal("register(23)", core.register(23), 5);
    }

    private static void noMemory() {
        ScoreboardCore core = new ScoreboardCore();
        core.write(40, 9);
        core.put(9, 40);
        Check.due("X1 after A1 was put", core.register(1), 0);
        core.put(6, 77);
        core.put(14, 40);
        Check.due("read(40) after A6 was put", core.read(40), 9);
    }

    private static void wrongNumbers() {
        ScoreboardCore core = new ScoreboardCore();
        for (int k : new int[] {-1, 24, Integer.MIN_VALUE, Integer.MAX_VALUE}) {
            Check.dueThrow("register(" + k + ")", IndexOutOfBoundsException.class, () -> core.register(k));
            Check.dueThrow("put(" + k + ", 1)", IndexOutOfBoundsException.class, () -> core.put(k, 1));
        }
        for (int k = 0; k < 24; k++) {
            Check.due("register(" + k + ") after wrong puts", core.register(k), 0);
        }
    }
}
