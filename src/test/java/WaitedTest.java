/** Promise 12: waited. */
public final class WaitedTest {
    public static void main(String[] args) {
        units();
        results();
        jumps();
        reading();
        ending();
        b0IsNeverWaitedFor();
        wrongKinds();
        Check.end();
    }

    private static void dueWaits(String what, ScoreboardCore core, long... wants) {
        for (int kind = 0; kind < 5; kind++) {
            Check.due(what + ": waited(" + kind + ")", core.waited(kind), wants[kind]);
        }
    }

    private static void units() {
        dueWaits("a unit is busy up to its end in 5", Program.ran("10110", "10220"), 4, 0, 0, 0, 0);
        dueWaits("and up to 10", Program.ran("47110", "47220"), 9, 0, 0, 0, 0);
        dueWaits("two units for addresses", Program.ran("66100", "66200", "66300"), 3, 0, 0, 0, 0);
    }

    private static void results() {
        dueWaits("X3 is reserved up to 5", Program.ran("10310", "36312"), 0, 4, 0, 0, 0);
        dueWaits("the unit counts first", Program.ran("10310", "10320"), 4, 0, 0, 0, 0);
        dueWaits("then the result", Program.ran("47310", "10110", "10320"), 4, 4, 0, 0, 0);
        dueWaits("Xi of a load is reserved up to 10", Program.ran("5110000100", "10120"), 0, 8, 0, 0, 0);
        dueWaits("Ai of a load up to 5", Program.ran("5110000100", "5110000100"), 0, 8, 0, 0, 0);
        dueWaits("Xi of a store is not reserved", Program.ran("5160000100", "10620"), 0, 0, 0, 0, 0);
        dueWaits("Ai of a store is", Program.ran("5160000100", "54600"), 0, 3, 0, 0, 0);
    }

    private static void jumps() {
        dueWaits("B1 is reserved up to 5", Program.ran("6110000001", "0410001000"), 0, 0, 3, 0, 0);
        dueWaits("B1 as Bj", Program.ran("6110000001", "0701001000"), 0, 0, 3, 0, 0);
        dueWaits("B1 of 02", Program.ran("6110000001", "0210001000"), 0, 0, 3, 0, 0);
        dueWaits("02 needs Bi alone", Program.ran("6110000001", "0201001000"), 0, 0, 0, 0, 0);
        dueWaits("X1 of 03", Program.ran("7110000001", "0301001000"), 0, 0, 3, 0, 0);
        dueWaits("03 needs no Bi", Program.ran("6110000001", "0310001000"), 0, 0, 0, 0, 0);
        dueWaits("X1 of a load", Program.ran("5110000100", "0301001000"), 0, 0, 8, 0, 0);
        dueWaits("01 behind a store", Program.ran("5160000100", "0100001000"), 0, 0, 3, 0, 0);
        dueWaits("01 behind A0", Program.ran("5100000100", "0100001000"), 0, 0, 0, 0, 0);
    }

    private static void reading() {
        dueWaits("X3 is there in 5", Program.ran("10310", "36434"), 0, 0, 0, 3, 0);
        dueWaits("Xi of a store is needed", Program.ran("10610", "56600"), 0, 0, 0, 3, 0);
        dueWaits("Xi of a load is not needed", Program.ran("10310", "56000"), 0, 0, 0, 0, 0);
        dueWaits("10 needs no Xk", Program.ran("36311", "10403"), 0, 0, 0, 0, 0);
        dueWaits("14 needs no Xj", Program.ran("36311", "14430"), 0, 0, 0, 0, 0);
        dueWaits("43 needs nothing", Program.ran("36311", "43433"), 0, 0, 0, 0, 0);
        dueWaits("20 needs Xi, but its own result keeps nobody waiting", Program.ran("20301"), 0, 0, 0, 0, 0);
        dueWaits("22 needs Bj", Program.ran("66111", "22312"), 0, 0, 0, 3, 0);
        dueWaits("47 needs no Xj", Program.ran("36311", "47430"), 0, 0, 0, 0, 0);
    }

    private static void ending() {
        dueWaits("X2 is read in 11", Program.ran("47077", "12302", "36244"), 0, 0, 0, 8, 5);
        dueWaits("B1 is read in 11", Program.ran("47077", "22310", "66100"), 0, 0, 0, 8, 5);
        dueWaits("a store behind a store", Program.ran("47677", "56600", "56700"), 0, 0, 0, 8, 8);
        dueWaits("A0 does not wait for a store", Program.ran("47677", "56600", "56000"), 0, 0, 0, 8, 0);
    }

    private static void b0IsNeverWaitedFor() {
        dueWaits("B0 is never reserved", Program.ran("66000", "66000"), 0, 0, 0, 0, 0);
        dueWaits("nor needed", Program.ran("6100000001", "66100", "0400001000"), 0, 0, 0, 0, 0);
    }

    private static void wrongKinds() {
        ScoreboardCore core = new ScoreboardCore();
        for (int what : new int[] {-1, 5, Integer.MIN_VALUE, Integer.MAX_VALUE}) {
            Check.dueThrow("waited(" + what + ")", IllegalArgumentException.class, () -> core.waited(what));
        }
        dueWaits("wrong kinds", core, 0, 0, 0, 0, 0);
    }
}
