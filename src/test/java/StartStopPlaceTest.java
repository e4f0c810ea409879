/** Promises 6, 8 and 9: start, stopped, place; with all that stops the machine. */
public final class StartStopPlaceTest {
    public static void main(String[] args) {
        start();
        wrongStarts();
        stopsWithZero();
        stopsWithOne();
        twoParcelsWhereOneIsLeft();
        everyOtherOp();
        stopsWithTwo();
        stopsWithTwoAtOnce();
        stoppedUntilStart();
        Check.end();
    }

    private static void dueState(String what, ScoreboardCore core, int stopped, int place) {
        Check.due(what + ": stopped()", core.stopped(), stopped);
        Check.due(what + ": place()", core.place(), place);
    }

    private static void start() {
        ScoreboardCore core = new ScoreboardCore();
        Program.lay(core, 0, "46000", "46000", "46000", "46000");
        core.run(3);
        dueState("three parcels on", core, 3, 3);
        core.start(0);
        dueState("start(0)", core, 3, 0);
        core.start(511);
        dueState("start(511)", core, 3, 2044);
        core.run(1);
        dueState("word 511 is 0", core, 0, 2044);
        core.start(7);
        dueState("start(7)", core, 3, 28);
    }

    private static void wrongStarts() {
        ScoreboardCore core = new ScoreboardCore();
        core.run(1);
        for (int word : new int[] {-1, 512, Integer.MIN_VALUE, Integer.MAX_VALUE}) {
            Check.dueThrow("start(" + word + ")", IllegalArgumentException.class, () -> core.start(word));
        }
        dueState("wrong starts", core, 0, 0);
        core.start(5);
        Check.dueThrow("start(512)", IllegalArgumentException.class, () -> core.start(512));
        dueState("a wrong start behind a right one", core, 3, 20);
    }

    private static void stopsWithZero() {
        ScoreboardCore core = Program.ran("46000", "46000", "00777");
        dueState("00 in parcel 2", core, 0, 2);
        core = new ScoreboardCore();
        Program.lay(core, 0, "46000", "00000");
        core.run(1);
        dueState("00 comes next, but is not taken yet", core, 3, 1);
        core.run(0);
        dueState("run(0) takes nothing", core, 3, 1);
        core.run(1);
        dueState("00 is taken", core, 0, 1);
    }

    private static void stopsWithOne() {
        dueState("03 with i 4", Program.ran("0340000001"), 1, 0);
        dueState("03 with i 7", Program.ran("46000", "0370000001"), 1, 1);
        dueState("30", Program.ran("46000", "30000"), 1, 1);
    }

    private static void twoParcelsWhereOneIsLeft() {
        String[] withConstant = {"01", "02", "03", "04", "05", "06", "07", "50", "51", "52", "60", "61", "62", "70",
            "71", "72"};
        for (String op : withConstant) {
            ScoreboardCore core = Program.ran("46000", "46000", "46000", op + "000", "46000");
            dueState(op + " in the last parcel", core, 1, 3);
            ScoreboardCore fits = new ScoreboardCore();
            Program.lay(fits, 0, "46000", "46000", op + "00000300");
            Check.due(op + " in the last two", fits.run(3), 3);
            Check.due(op + " in the last two: stopped()", fits.stopped(), 3);
        }
    }

    private static void everyOtherOp() {
        for (int op = 0; op < 64; op++) {
            boolean known = op > 0 && op <= 023 || op == 036 || op == 037 || op == 043 || op >= 046;
            ScoreboardCore core = new ScoreboardCore();
            core.write(0, (long) op << 54);
            Check.due("run(1) of OP " + Integer.toOctalString(op), core.run(1), known ? 1 : 0);
            Check.due("stopped() behind OP " + Integer.toOctalString(op), core.stopped(), known ? 3 : op == 0 ? 0 : 1);
        }
    }

    private static void stopsWithTwo() {
        dueState("on at 512", Program.ran("0400001000"), 2, 2048);
        dueState("on at -0", Program.ran("0400777777"), 2, 4 * 262143);
        dueState("01 at the highest K", Program.ran("0100777777"), 2, 4 * 262144);
        dueState("01 at 511", Program.ran("0100000777"), 2, 2048);
        ScoreboardCore last = new ScoreboardCore();
        Program.lay(last, 511, "46000", "46000", "46000", "46000");
        last.start(511);
        Check.due("run(9) at word 511", last.run(9), 4);
        dueState("behind word 511", last, 2, 2048);
    }

    private static void stopsWithTwoAtOnce() {
        ScoreboardCore core = new ScoreboardCore();
        Program.lay(core, 0, "0400001130");
        Check.due("run(1) of a jump to 600", core.run(1), 1);
        dueState("a jump to 600", core, 2, 2400);
        Program.lay(core, 511, "46000", "46000", "0500000000");
        core.start(511);
        Check.due("run(3) up to the end of memory", core.run(3), 3);
        dueState("a jump that is none in the last parcels", core, 2, 2048);
    }

    private static void stoppedUntilStart() {
        ScoreboardCore core = new ScoreboardCore();
        core.run(1);
        Program.lay(core, 0, "46000", "46000");
        Check.due("run(5) of a stopped machine", core.run(5), 0);
        dueState("a stopped machine", core, 0, 0);
        Check.due("its cycles()", core.cycles(), 0);
        core.start(0);
        Check.due("run(5) behind start", core.run(5), 2);
        dueState("it stopped again", core, 0, 2);
    }
}
