/** Promises 2 and 3: write, read. */
public final class MemoryTest {
    public static void main(String[] args) {
        ordinary();
        edges();
        wrongAddresses();
        Check.end();
    }

    private static void ordinary() {
        ScoreboardCore core = new ScoreboardCore();
        Check.due("write(7, 5)", core.write(7, 5), 0);
        Check.due("write(7, 6)", core.write(7, 6), 5);
        Check.due("read(7)", core.read(7), 6);
        Check.due("read(6)", core.read(6), 0);
        Check.due("read(8)", core.read(8), 0);
    }

    private static void edges() {
        ScoreboardCore core = new ScoreboardCore();
        core.write(0, -1);
        core.write(511, Long.MIN_VALUE | 1L << 60 | 1L << 59 | 3);
        Check.dueOctal("read(0)", core.read(0), Program.MINUS_ZERO);
        Check.dueOctal("read(511)", core.read(511), 1L << 59 | 3);
        Check.dueOctal("write(0, 1 << 60)", core.write(0, 1L << 60), Program.MINUS_ZERO);
        Check.dueOctal("read(0)", core.read(0), 0);
    }

    private static void wrongAddresses() {
        ScoreboardCore core = new ScoreboardCore();
        core.write(0, 1);
        core.write(511, 2);
        for (int address : new int[] {-1, 512, Integer.MIN_VALUE, Integer.MAX_VALUE}) {
            Check.dueThrow("write(" + address + ", 9)", IndexOutOfBoundsException.class, () -> core.write(address, 9));
            Check.dueThrow("read(" + address + ")", IndexOutOfBoundsException.class, () -> core.read(address));
        }
        Check.due("read(0)", core.read(0), 1);
        Check.due("read(511)", core.read(511), 2);
        Check.due("stopped()", core.stopped(), 3);
        Check.due("place()", core.place(), 0);
    }
}
