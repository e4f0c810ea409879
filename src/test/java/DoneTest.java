/** Promise 11: done. */
public final class DoneTest {
    public static void main(String[] args) {
        units();
        jumps();
        everyJump();
        everyOp();
        stopsAreNotDone();
        addressUnits();
        addressUnitAtGivingOut();
        wrongUnits();
        Check.end();
    }

    private static void dueDone(ScoreboardCore core, int... wants) {
        for (int unit = 0; unit < 8; unit++) {
            Check.due("done(" + unit + ")", core.done(unit), wants[unit]);
        }
    }

    private static void units() {
        dueDone(Program.ran("10310", "17312", "20301", "21301", "22312", "23312", "43312", "36312", "37312", "37312",
                "47312", "46000", "7100000001"), 2, 5, 3, 1, 1, 0, 0, 0);
    }

    private static void jumps() {
        ScoreboardCore core = new ScoreboardCore();
        Program.lay(core, 0, "0500000007", "0310000007", "0600000001");
        Program.lay(core, 1, "0500000007", "0600000002");
        Program.lay(core, 2, "0100000062");
        Program.lay(core, 51, "0200001000");
        Check.due("run(99)", core.run(99), 6);
        dueDone(core, 0, 0, 0, 0, 0, 0, 6, 3);
    }

    /** X1 and B1 are 1, X2 is -0, the others 0: each jump once as it goes on elsewhere, and once, if it can, as it does not. */
    private static void everyJump() {
        String[] taken = {"0100", "0200", "0300", "0311", "0321", "0332", "0400", "0501", "0610", "0701"};
        String[] straight = {"0301", "0310", "0322", "0331", "0401", "0500", "0601", "0700"};
        for (String jump : taken) {
            dueJump(jump, 1);
        }
        for (String jump : straight) {
            dueJump(jump, 0);
        }
    }

    private static void dueJump(String jump, int elsewhere) {
        ScoreboardCore core = Program.laid(jump + "000100");
        core.put(1, 1);
        core.put(2, -1);
        core.put(Program.B + 1, 1);
        Check.due("run(1) of " + jump, core.run(1), 1);
        dueDone(core, 0, 0, 0, 0, 0, 0, 1, elsewhere);
    }

    /** Which unit does an instruction stands in its OP alone. */
    private static void everyOp() {
        for (int op = 010; op < 0100; op++) {
            int unit = unitOf(op);
            ScoreboardCore core = new ScoreboardCore();
            core.write(0, (long) op << 54);
            core.run(1);
            for (int n = 0; n < 8; n++) {
                Check.due("done(" + n + ") of " + Integer.toOctalString(op), core.done(n), n == unit ? 1 : 0);
            }
        }
    }

    private static int unitOf(int op) {
        if (op >= 050) {
            return 4;
        }
        String units = "00000000" + "1111----" + "------22" + "---1---3";
        return "0123".indexOf(units.charAt(op - 010));
    }

    private static void stopsAreNotDone() {
        dueDone(Program.ran("00000"), 0, 0, 0, 0, 0, 0, 0, 0);
        dueDone(Program.ran("30000"), 0, 0, 0, 0, 0, 0, 0, 0);
        dueDone(Program.ran("0340000001"), 0, 0, 0, 0, 0, 0, 0, 0);
        dueDone(Program.ran("46000", "46000", "46000", "71000"), 0, 0, 0, 0, 0, 0, 0, 0);
        dueDone(Program.ran("46000", "46000", "46000", "04000"), 0, 0, 0, 0, 0, 0, 0, 0);
    }

    private static void addressUnits() {
        // The first three are given out in 1, 2 and, when 4 is free again, in 6.
        dueDone(Program.ran("66100", "66200", "66300"), 0, 0, 0, 0, 2, 1, 0, 0);
        // Two parcels each: given out in 1, 3, and 6; then 5 is free in 8.
        dueDone(Program.ran("6110000001", "6120000001", "6130000001", "6140000001"), 0, 0, 0, 0, 2, 2, 0, 0);
    }

    /** 5 is free first, but when the reserved result is free, 4 is, too. */
    private static void addressUnitAtGivingOut() {
        ScoreboardCore core = Program.ran("47577", "63150", "66200", "66500", "66100");
        // 63: unit 4, in 2, reads in 11, ends in 14. 66: unit 5, in 3, then in 8; B1 is free in 15.
        dueDone(core, 0, 0, 0, 1, 2, 2, 0, 0);
        Check.due("waited(0)", core.waited(0), 4 + 4);
        Check.due("waited(1)", core.waited(1), 2);
    }

    private static void wrongUnits() {
        ScoreboardCore core = new ScoreboardCore();
        for (int unit : new int[] {-1, 8, 9, 16, Integer.MIN_VALUE, Integer.MAX_VALUE}) {
            Check.dueThrow("done(" + unit + ")", IllegalArgumentException.class, () -> core.done(unit));
        }
        dueDone(core, 0, 0, 0, 0, 0, 0, 0, 0);
    }
}
