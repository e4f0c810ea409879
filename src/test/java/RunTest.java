/** Promise 7: run; what the instructions do to registers and memory stands in InstructionsTest. */
public final class RunTest {
    public static void main(String[] args) {
        counts();
        most();
        wrongCounts();
        programAsItWas();
        programThat01Wrote();
        Check.end();
    }

    private static void counts() {
        ScoreboardCore core = new ScoreboardCore();
        Program.lay(core, 0, "46000", "7110000005", "46000", "0500000000", "36211", "00000");
        Check.due("run(0)", core.run(0), 0);
        Check.due("place()", core.place(), 0);
        Check.due("run(2)", core.run(2), 2);
        Check.due("place()", core.place(), 3);
        Check.due("run(2000)", core.run(2000), 3);
        Check.due("X2", core.register(2), 10);
        Check.due("stopped()", core.stopped(), 0);
        Check.due("run(1)", core.run(1), 0);
    }

    private static void most() {
        ScoreboardCore core = new ScoreboardCore();
        Program.lay(core, 0, "0400000000");
        Check.due("run(2000) of a loop", core.run(2000), 2000);
        Check.due("stopped()", core.stopped(), 3);
        Check.due("cycles()", core.cycles(), 8 * 1999 + 1);
    }

    private static void wrongCounts() {
        ScoreboardCore core = new ScoreboardCore();
        Program.lay(core, 0, "46000", "46000");
        for (int n : new int[] {-1, 2001, Integer.MIN_VALUE, Integer.MAX_VALUE}) {
            Check.dueThrow("run(" + n + ")", IllegalArgumentException.class, () -> core.run(n));
        }
        Check.due("place()", core.place(), 0);
        Check.due("stopped()", core.stopped(), 3);
        Check.due("cycles()", core.cycles(), 0);
        core.start(3);
        core.run(1);
        Check.dueThrow("run(-1) of a stopped machine", IllegalArgumentException.class, () -> core.run(-1));
        Check.due("stopped()", core.stopped(), 0);
    }

    /** A6 stores into the word that comes next: this run still takes the old one, the next run the new one. */
    private static void programAsItWas() {
        ScoreboardCore core = new ScoreboardCore();
        Program.lay(core, 0, "5160000001", "46000", "46000", "7110000005");
        Program.lay(core, 9, "7110000006");
        core.put(6, core.read(9));
        Check.due("run(9)", core.run(9), 4);
        Check.due("X1 of the old word", core.register(1), 5);
        Check.due("read(1)", core.read(1), core.read(9));
        core.start(1);
        core.run(1);
        Check.due("X1 of the new word", core.register(1), 6);
    }

    private static void programThat01Wrote() {
        ScoreboardCore core = new ScoreboardCore();
        // 01 puts a jump back to word 1 at 50, and goes on at 51, which jumps to 50.
        Program.lay(core, 0, "0100000062");
        Program.lay(core, 1, "7110000007");
        Program.lay(core, 51, "5160000062", "0400000062");
        core.put(6, 123);
        Check.due("run(9)", core.run(9), 5);
        Check.due("X1", core.register(1), 7);
        Check.due("place()", core.place(), 6);
        Check.due("read(50), that A6 wrote behind 01", core.read(50), 123);
        core.start(50);
        Check.due("run(1)", core.run(1), 0);
    }
}
