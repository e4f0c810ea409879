/** Promises 4 and 5: register, put. Wrong numbers stand in RefusedCallsTest, too. */
public final class RegistersTest {
    private static final int A = Program.A;
    private static final int B = Program.B;

    public static void main(String[] args) {
        ordinary();
        lowestBits();
        b0StaysZero();
        noMemory();
        wrongNumbers();
        Check.end();
    }

    private static void ordinary() {
        ScoreboardCore core = new ScoreboardCore();
        for (int k = 0; k < 24; k++) {
            core.put(k, 100 + k);
        }
        for (int k = 0; k < 24; k++) {
            Check.due("register(" + k + ")", core.register(k), k == B ? 0 : 100 + k);
        }
        // X2 becomes A3 + B4: the numbers are those of X, A, B in this order.
        Program.lay(core, 0, "74234");
        core.run(1);
        Check.due("X2", core.register(2), 111 + 120);
    }

    private static void lowestBits() {
        for (int k = 0; k < 24; k++) {
            ScoreboardCore core = new ScoreboardCore();
            int length = k < A ? 60 : 18;
            long all = k == B ? 0 : (1L << length) - 1;
            for (int bit = 0; bit < 64; bit++) {
                core.put(k, 1L << bit);
                Check.dueOctal("register(" + k + ") behind put of bit " + bit, core.register(k), 1L << bit & all);
            }
            core.put(k, -1);
            Check.dueOctal("register(" + k + ") behind put of -1", core.register(k), all);
            core.put(k, 0);
            Check.dueOctal("register(" + k + ") behind put of 0", core.register(k), 0);
        }
    }

    private static void b0StaysZero() {
        ScoreboardCore core = new ScoreboardCore();
        core.put(B - 1, 3);
        core.put(B + 1, 4);
        core.put(B, 5);
        Check.due("A7", core.register(B - 1), 3);
        Check.due("B0", core.register(B), 0);
        Check.due("B1", core.register(B + 1), 4);
    }

    private static void noMemory() {
        ScoreboardCore core = new ScoreboardCore();
        core.write(40, 9);
        for (int i = 0; i < 8; i++) {
            core.put(i, 77);
            core.put(A + i, 40);
            Check.due("X" + i + " after A" + i + " was put", core.register(i), 77);
            Check.due("read(40) after A" + i + " was put", core.read(40), 9);
        }
        core.put(A + 6, 512);
        core.put(A + 7, -1);
        Check.due("A6 outside memory", core.register(A + 6), 512);
        Check.dueOctal("A7 outside memory", core.register(A + 7), Program.SHORT_MINUS_ZERO);
    }

    private static void wrongNumbers() {
        ScoreboardCore core = new ScoreboardCore();
        for (int k : new int[] {-1, 24, 25, 32, 64, Integer.MIN_VALUE, Integer.MAX_VALUE}) {
            Check.dueThrow("register(" + k + ")", IndexOutOfBoundsException.class, () -> core.register(k));
            Check.dueThrow("put(" + k + ", 1)", IndexOutOfBoundsException.class, () -> core.put(k, 1));
        }
        for (int k = 0; k < 24; k++) {
            Check.due("register(" + k + ") after wrong puts", core.register(k), 0);
        }
    }
}
