/** Promise 10: cycles, by hand for small programs. */
public final class CyclesTest {
    public static void main(String[] args) {
        oneInstruction();
        parcels();
        jumps();
        readsBehindResults();
        resultsBehindReads();
        memoryInOrder();
        jump01WaitsForMemory();
        runsFollowEachOther();
        Check.end();
    }

    private static void dueCycles(long want, String... program) {
        Check.due("cycles() of " + String.join(" ", program), Program.ran(program).cycles(), want);
    }

    /** Given out in 1, read in 2, ended as many cycles later as the unit has. */
    private static void oneInstruction() {
        dueCycles(0, "00000");
        dueCycles(0, "30000");
        dueCycles(1, "46000");
        dueCycles(5, "10310");
        dueCycles(5, "20301");
        dueCycles(5, "43301");
        dueCycles(5, "36312");
        dueCycles(10, "47302");
        dueCycles(5, "7110000001");
        dueCycles(5, "6100000001");
        dueCycles(5, "5100000001");
        dueCycles(10, "5110000001");
        dueCycles(10, "5150000001");
        dueCycles(5, "5160000001");
        dueCycles(1, "0500000001");
        dueCycles(1, "0400001000");
    }

    private static void parcels() {
        dueCycles(3, "46000", "46000", "46000");
        dueCycles(5, "7110000001", "46000");
        dueCycles(7, "7110000001", "7120000001");
        dueCycles(6, "66112", "66345");
    }

    private static void jumps() {
        dueCycles(5, "0500000001", "46000");
        ScoreboardCore core = new ScoreboardCore();
        Program.lay(core, 0, "0400000001");
        Program.lay(core, 1, "46000");
        core.run(9);
        Check.due("cycles() of a jump to the next word, and 46", core.cycles(), 9);
        Check.due("done(7)", core.done(7), 1);
    }

    private static void readsBehindResults() {
        // The second reads in 6, when X3 is free, and ends in 9.
        dueCycles(9, "10310", "36434");
        // The load comes there in 10: the second reads in 11 and ends in 14.
        dueCycles(14, "5110000100", "10310");
        // A1 is there in 5.
        dueCycles(10, "5110000100", "74310");
    }

    private static void resultsBehindReads() {
        // X0 comes in 10. 12 is given out in 3, and reads X0 and X2 in 11; 36 could end X2 in 8, but ends in 12.
        ScoreboardCore core = Program.ran("47077", "12302", "36244");
        Check.due("cycles()", core.cycles(), 14);
        Check.due("waited(3)", core.waited(3), 8);
        Check.due("waited(4)", core.waited(4), 5);
    }

    private static void memoryInOrder() {
        // A1 waits for X5, reads in 11, ends in 14; A2, that could end in 7, ends in 15, and X2 is there in 20.
        ScoreboardCore core = Program.ran("47577", "53150", "56200");
        Check.due("cycles()", core.cycles(), 20);
        Check.due("waited(4)", core.waited(4), 8);
    }

    private static void jump01WaitsForMemory() {
        // A1 ends in 5, so 01, that could be done in 3, is in 6; X1 comes in 10; 46 is given out in 14.
        ScoreboardCore core = new ScoreboardCore();
        Program.lay(core, 0, "5110000100", "0100000062");
        Program.lay(core, 51, "46000");
        core.run(9);
        Check.due("cycles()", core.cycles(), 14);
        Check.due("waited(2)", core.waited(2), 3);
        // 71 is no memory: 01 is done in 3.
        Program.lay(core, 0, "7110000100", "0100000062");
        core.start(0);
        core.run(9);
        Check.due("cycles() without memory", core.cycles(), 14 + 11);
        Check.due("waited(2)", core.waited(2), 3);
    }

    private static void runsFollowEachOther() {
        ScoreboardCore core = new ScoreboardCore();
        Program.lay(core, 0, "47077", "12302", "36244");
        core.run(0);
        Check.due("cycles() behind run(0)", core.cycles(), 0);
        core.run(1);
        Check.due("cycles() behind one", core.cycles(), 10);
        core.run(2);
        Check.due("cycles() behind three, with an empty board between", core.cycles(), 10 + 6);
        Check.due("waited(3)", core.waited(3), 0);
        core.run(5);
        Check.due("cycles() behind the stop", core.cycles(), 16);
    }
}
