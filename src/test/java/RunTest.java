/** Promise 7: run; what the instructions do to registers and memory stands in other tests. */
public final class RunTest {
    public static void main(String[] args) {
        counts();
        stopsDoNotCount();
        mostInLoop();
        mostInLine();
        wrongCounts();
        programAsItWas();
        programInItsOwnWord();
        programWrittenBetweenRuns();
        programThat01Wrote();
        programThat01WroteOverAStore();
        programThat01WroteOverItself();
        Check.end();
    }

    private static void counts() {
        ScoreboardCore core = Program.laid("46000", "7110000005", "46000", "0500000000", "36211", "00000");
        Check.due("run(0)", core.run(0), 0);
        Check.due("place()", core.place(), 0);
        Check.due("stopped()", core.stopped(), 3);
        Check.due("run(2)", core.run(2), 2);
        Check.due("place()", core.place(), 3);
        Check.due("run(2000)", core.run(2000), 3);
        Check.due("X2", core.register(2), 10);
        Check.due("stopped()", core.stopped(), 0);
        Check.due("run(1)", core.run(1), 0);
    }

    /** Three instructions and a stop of each kind, with fewer, as many and more asked for. */
    private static void stopsDoNotCount() {
        String[] stops = {"00000", "30000", "0340000001"};
        for (String stop : stops) {
            for (int n = 0; n < 7; n++) {
                ScoreboardCore core = Program.laid("46000", "7110000005", "46000", stop);
                Check.due("run(" + n + ") up to " + stop, core.run(n), Math.min(n, 3));
                Check.due("stopped()", core.stopped(), n <= 3 ? 3 : stop.equals("00000") ? 0 : 1);
            }
        }
        ScoreboardCore core = Program.laid("46000", "0400001000");
        Check.due("run(9): the jump out of memory counts, the stop there does not", core.run(9), 2);
        Check.due("stopped()", core.stopped(), 2);
        Check.due("run(9) of the stopped machine", core.run(9), 0);
    }

    private static void mostInLoop() {
        ScoreboardCore core = Program.laid("0400000000");
        Check.due("run(2000) of a loop", core.run(2000), 2000);
        Check.due("stopped()", core.stopped(), 3);
        Check.due("cycles()", core.cycles(), 8 * 1999 + 1);
        Check.due("run(1999)", core.run(1999), 1999);
        Check.due("done(6)", core.done(6), 3999);
    }

    /** 500 words are 2000 parcels; the 2001st stops. */
    private static void mostInLine() {
        ScoreboardCore core = new ScoreboardCore();
        for (int word = 0; word < 500; word++) {
            Program.lay(core, word, "46000", "46000", "46000", "46000");
        }
        Check.due("run(2000)", core.run(2000), 2000);
        Check.due("stopped()", core.stopped(), 3);
        Check.due("place()", core.place(), 2000);
        Check.due("cycles()", core.cycles(), 2000);
        Check.due("run(1)", core.run(1), 0);
        Check.due("stopped()", core.stopped(), 0);
        Check.due("place()", core.place(), 2000);
    }

    private static void wrongCounts() {
        ScoreboardCore core = Program.laid("46000", "46000");
        for (int n : new int[] {-1, -2000, 2001, 4096, Integer.MIN_VALUE, Integer.MAX_VALUE}) {
            Check.dueThrow("run(" + n + ")", IllegalArgumentException.class, () -> core.run(n));
        }
        Check.due("place()", core.place(), 0);
        Check.due("stopped()", core.stopped(), 3);
        Check.due("cycles()", core.cycles(), 0);
        core.start(3);
        core.run(1);
        Check.dueThrow("run(-1) of a stopped machine", IllegalArgumentException.class, () -> core.run(-1));
        Check.dueThrow("run(2001) of a stopped machine", IllegalArgumentException.class, () -> core.run(2001));
        Check.due("stopped()", core.stopped(), 0);
    }

    /** A6 and A7 store into the word that comes next: this run still takes the old one, the next run the new one. */
    private static void programAsItWas() {
        for (int i = 6; i < 8; i++) {
            ScoreboardCore core = Program.laid("51" + i + "0000001", "46000", "5120000001", "7110000005");
            Program.lay(core, 9, "5120000001", "7110000006");
            core.put(i, core.read(9));
            Check.due("run(9)", core.run(9), 5);
            Check.due("X1 of the old word", core.register(1), 5);
            Check.dueOctal("X2, loaded from where the new one is", core.register(2), core.read(9));
            Check.dueOctal("read(1)", core.read(1), core.read(9));
            core.start(1);
            core.run(2);
            Check.due("X1 of the new word", core.register(1), 6);
        }
    }

    /** The store hits the word in which it stands, whose next parcels are taken as they were. */
    private static void programInItsOwnWord() {
        ScoreboardCore core = Program.laid("56600", "43101", "43201");
        Program.lay(core, 9, "46000", "43301", "00000");
        core.put(6, core.read(9));
        Check.due("run(2)", core.run(2), 2);
        Check.dueOctal("X1 of the old word", core.register(1), 1L << 59);
        Check.due("run(9), of the new word from parcel 2 on", core.run(9), 0);
        Check.due("place()", core.place(), 2);
        Check.due("stopped()", core.stopped(), 0);
        Check.due("X2", core.register(2), 0);
    }

    private static void programWrittenBetweenRuns() {
        ScoreboardCore core = Program.laid("46000", "46000", "43101", "00000");
        core.run(2);
        Program.lay(core, 0, "30000", "30000", "43201", "30000");
        Check.due("run(9)", core.run(9), 1);
        Check.due("X1", core.register(1), 0);
        Check.dueOctal("X2", core.register(2), 1L << 59);
        Check.due("stopped()", core.stopped(), 1);
    }

    private static void programThat01Wrote() {
        ScoreboardCore core = new ScoreboardCore();
        // 01 puts a jump back to word 1 at 50, and goes on at 51, which jumps to 50.
        Program.lay(core, 0, "0100000062");
        Program.lay(core, 1, "7110000007");
        Program.lay(core, 51, "5160000062", "0400000062");
        core.put(6, 123);
        Check.due("run(9)", core.run(9), 5);
        Check.due("X1", core.register(1), 7);
        Check.due("place()", core.place(), 6);
        Check.due("read(50), that A6 wrote behind 01", core.read(50), 123);
        core.start(50);
        Check.due("run(1)", core.run(1), 0);
    }

    private static void programThat01WroteOverAStore() {
        ScoreboardCore core = new ScoreboardCore();
        Program.lay(core, 0, "5160000062", "0100000062");
        Program.lay(core, 1, "7110000007");
        Program.lay(core, 51, "5120000062", "0400000062");
        core.put(6, 123);
        Check.due("run(9)", core.run(9), 6);
        Check.due("X1", core.register(1), 7);
        Check.dueOctal("read(50), that 01 wrote behind A6", core.read(50), 0400L << 48 | 1L << 30);
        Check.dueOctal("X2, loaded from there", core.register(2), 0400L << 48 | 1L << 30);
    }

    /** 01 in word 3 writes word 3: who comes there again in the same run only goes on to word 4. */
    private static void programThat01WroteOverItself() {
        ScoreboardCore core = new ScoreboardCore();
        Program.lay(core, 3, "0100000003");
        Program.lay(core, 4, "67112", "0710000007", "46000", "0400000003");
        Program.lay(core, 7, "46000");
        core.put(Program.B + 1, 1);
        core.put(Program.B + 2, 1);
        core.start(3);
        Check.due("run(20): 01, four in words 4 and 5, what 01 wrote, two in word 4, and 46", core.run(20), 9);
        Check.due("place()", core.place(), 29);
        Check.dueOctal("read(3)", core.read(3), 0400L << 48 | 4L << 30);
        Check.due("done(6)", core.done(6), 5);
        Check.due("done(7)", core.done(7), 4);
    }
}
