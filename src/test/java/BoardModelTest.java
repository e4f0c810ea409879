/** Many programs, run in pieces on the machine and on the model beside it: all answers are the same. */
public final class BoardModelTest {
    private static final int PROGRAMS = 3000;
    private static final int PIECES = 6;
    /** Only these words are written, so that no object needs more than its 512 calls. */
    private static final int LOW_WORDS = 72;
    private static final int HIGH_WORD = 504;
    private static final int[] OPS = {1, 2, 3, 4, 5, 6, 7, 010, 011, 012, 013, 014, 015, 016, 017, 020, 021, 022, 023,
        036, 037, 043, 046, 047, 047, 047};
    private static final long[] EDGES = {0, -1, 1, -2, 1L << 59, (1L << 59) - 1, 1L << 17, (1L << 17) - 1, 511, 512};

    private static long seed;

    public static void main(String[] args) {
        for (int n = 0; n < PROGRAMS; n++) {
            seed = 0x9E3779B97F4A7C15L * (n + 1);
            compareProgram("program " + n);
        }
        Check.end();
    }

    /** The same numbers in every run of the tests. */
    private static int below(int bound) {
        seed = seed * 6364136223846793005L + 1442695040888963407L;
        return (int) ((seed >>> 33) % bound);
    }

    private static long bits() {
        if (below(3) == 0) {
            return EDGES[below(EDGES.length)];
        }
        return (long) below(1 << 30) << 34 ^ (long) below(1 << 30) << 15 ^ below(1 << 15);
    }

    private static void compareProgram(String name) {
        ScoreboardCore core = new ScoreboardCore();
        BoardModel model = new BoardModel();
        int fewer = 2 + below(7);
        boolean jumpsSeldom = below(2) == 0;
        for (int address = 0; address < 512; address = behind(address)) {
            long word = below(300) == 0 ? bits() : programWord(fewer, jumpsSeldom);
            core.write(address, word);
            model.memory[address] = word & Program.MINUS_ZERO;
        }
        for (int k = 0; k < 24; k++) {
            long v = k >= 8 && below(2) == 0 ? below(64) : bits();
            core.put(k, v);
            model.registers[k] = k == 16 ? 0 : v & (k < 8 ? Program.MINUS_ZERO : Program.SHORT_MINUS_ZERO);
        }
        for (int piece = 0; piece < PIECES; piece++) {
            int n = below(3) == 0 ? 1 + below(3) : below(120);
            String what = name + ", piece " + piece + ": ";
            Check.due(what + "run(" + n + ")", core.run(n), model.run(n));
            compareState(what, core, model);
            if (model.stop != 3 || below(6) == 0) {
                int word = below(10) == 0 ? HIGH_WORD + below(8) : below(LOW_WORDS);
                core.start(word);
                model.word = word;
                model.parcel = 0;
                model.stop = 3;
            }
        }
        for (int address = 0; address < 512; address = behind(address)) {
            Check.dueOctal(name + ": read(" + address + ")", core.read(address), model.memory[address]);
        }
    }

    private static int behind(int address) {
        return address + 1 == LOW_WORDS ? HIGH_WORD : address + 1;
    }

    private static int constant() {
        switch (below(8)) {
            case 0:
                return below(1 << 18);
            case 1:
                return HIGH_WORD + below(12);
            default:
                return below(LOW_WORDS);
        }
    }

    private static void compareState(String what, ScoreboardCore core, BoardModel model) {
        Check.due(what + "stopped()", core.stopped(), model.stop);
        Check.due(what + "place()", core.place(), 4L * model.word + model.parcel);
        Check.due(what + "cycles()", core.cycles(), model.cycles);
        for (int k = 0; k < 24; k++) {
            Check.dueOctal(what + "register(" + k + ")", core.register(k), model.registers[k]);
        }
        for (int unit = 0; unit < 8; unit++) {
            Check.due(what + "done(" + unit + ")", core.done(unit), model.dones[unit]);
        }
        for (int kind = 0; kind < 5; kind++) {
            Check.due(what + "waited(" + kind + ")", core.waited(kind), model.waits[kind]);
        }
    }

    /** Few different registers make instructions wait for one another more often. */
    private static long programWord(int registers, boolean jumpsSeldom) {
        long word = 0;
        int parcel = 0;
        while (parcel < 4) {
            int op = below(2) == 0 ? 050 + below(24) : OPS[below(OPS.length)];
            if (op < 8 && jumpsSeldom && below(5) > 0) {
                op = 036;
            }
            boolean two = op < 8 || op >= 050 && op % 8 < 3;
            if (two && parcel == 3 && below(20) > 0) {
                op = 046;
                two = false;
            }
            int i = op == 3 && below(20) > 0 ? below(4) : below(registers);
            long bits = (long) op << 9 | (long) i << 6 | (long) below(registers) << 3 | below(registers);
            word = word << 15 | bits;
            parcel++;
            if (two && parcel < 4) {
                int constant = constant();
                word = (word & ~7L | constant >> 15) << 15 | constant & 077777;
                parcel++;
            }
        }
        return word;
    }
}
