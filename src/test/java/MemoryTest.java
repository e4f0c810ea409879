/** Promises 2 and 3: write, read. Wrong addresses stand in RefusedCallsTest, too. */
public final class MemoryTest {
    private static final int MOST_ADDRESSES = 128;

    public static void main(String[] args) {
        ordinary();
        for (int from = 0; from < 512; from += MOST_ADDRESSES) {
            everyAddress(from);
        }
        lowestBits();
        wrongAddresses();
        Check.end();
    }

    private static void ordinary() {
        ScoreboardCore core = new ScoreboardCore();
        Check.due("write(7, 5)", core.write(7, 5), 0);
        Check.due("write(7, 6)", core.write(7, 6), 5);
        Check.due("read(7)", core.read(7), 6);
        Check.due("read(6)", core.read(6), 0);
        Check.due("read(8)", core.read(8), 0);
        for (int k = 0; k < 24; k++) {
            Check.due("register(" + k + ")", core.register(k), 0);
        }
        Check.due("place()", core.place(), 0);
        Check.due("stopped()", core.stopped(), 3);
        Check.due("cycles()", core.cycles(), 0);
    }

    /** In pieces, so that no object needs more than its 512 calls. */
    private static void everyAddress(int from) {
        ScoreboardCore core = new ScoreboardCore();
        for (int address = from; address < from + MOST_ADDRESSES; address++) {
            Check.due("write(" + address + ", ..)", core.write(address, 3000 + address), 0);
        }
        for (int address = from; address < from + MOST_ADDRESSES; address++) {
            Check.due("read(" + address + ")", core.read(address), 3000 + address);
            Check.due("write(" + address + ", 1)", core.write(address, 1), 3000 + address);
        }
        Check.due("read(" + (from + 256) % 512 + ")", core.read((from + 256) % 512), 0);
    }

    private static void lowestBits() {
        ScoreboardCore core = new ScoreboardCore();
        for (int bit = 0; bit < 64; bit++) {
            long kept = bit < 60 ? 1L << bit : 0;
            core.write(511, 1L << bit);
            Check.dueOctal("read(511) behind a write of bit " + bit, core.read(511), kept);
            Check.dueOctal("write(511, -1)", core.write(511, -1), kept);
            Check.dueOctal("write(511, 0)", core.write(511, 0), Program.MINUS_ZERO);
        }
        core.write(0, Long.MIN_VALUE | 1L << 60 | 1L << 59 | 3);
        Check.dueOctal("read(0)", core.read(0), 1L << 59 | 3);
    }

    private static void wrongAddresses() {
        ScoreboardCore core = new ScoreboardCore();
        core.write(0, 1);
        core.write(511, 2);
        for (int address : new int[] {-1, 512, -512, 1023, 65536, Integer.MIN_VALUE, Integer.MAX_VALUE}) {
            Check.dueThrow("write(" + address + ", 9)", IndexOutOfBoundsException.class, () -> core.write(address, 9));
            Check.dueThrow("read(" + address + ")", IndexOutOfBoundsException.class, () -> core.read(address));
        }
        Check.due("read(0)", core.read(0), 1);
        Check.due("read(511)", core.read(511), 2);
    }
}
