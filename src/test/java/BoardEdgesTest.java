/**
 * "Terms", the board: for each sentence that names a cycle, a program that comes one cycle too early and waits for it,
 * and the same program with one more 46 that does not wait.
 */
public final class BoardEdgesTest {
    private static final int UNIT = 0;
    private static final int RESULT = 1;
    private static final int JUMP = 2;
    private static final int READ = 3;
    private static final int END = 4;

    public static void main(String[] args) {
        nextIsGivenOut();
        unitIsFree();
        fourIfThatIsFree();
        resultIsReserved();
        registersAreRead();
        b0IsNeverNeeded();
        endBehindReading();
        endOnlyBehindReadingOfOwnResults();
        endBehindMemory();
        memoryIsA1ToA7();
        outsideMemoryTakesAsLong();
        loadsAreA1ToA5();
        jumpIsDone();
        jump01WaitsForMemory();
        jump01WaitsForA1ToA7();
        behindAJump();
        stopIsNotCounted();
        stopWaitsForNothing();
        everyRunHasAnEmptyBoard();
        lateCyclesAreForgotten();
        Check.end();
    }

    /** The last one waits for a single cycle behind so many 46, for two behind one less, for none behind one more. */
    private static void dueEdge(int kind, int nothings, String last, String... before) {
        long without = Program.ran(before).waited(kind);
        for (int wait = 0; wait < 3; wait++) {
            String[] program = Program.spaced(nothings + 1 - wait, last, before);
            boolean lastNeedsRoom = last.length() == 10 && program.length % 4 == 0;
            ScoreboardCore core = ranFrom(lastNeedsRoom ? "46000" : "", program);
            Check.due("waited(" + kind + ") of " + String.join(" ", program), core.waited(kind) - without, wait);
        }
    }

    /** What comes first only shifts the program by a parcel and a cycle. */
    private static ScoreboardCore ranFrom(String first, String[] program) {
        String[] all = program.clone();
        all[0] = first + all[0];
        return Program.ran(all);
    }

    private static void dueWaits(String what, ScoreboardCore core, long... wants) {
        for (int kind = 0; kind < 5; kind++) {
            Check.due(what + ": waited(" + kind + ")", core.waited(kind), wants[kind]);
        }
    }

    private static void dueCycles(long want, String... program) {
        Check.due("cycles() of " + String.join(" ", program), Program.ran(program).cycles(), want);
    }

    /** One cycle behind the one before, two behind two parcels: seen by the cycle in which the last one is given out. */
    private static void nextIsGivenOut() {
        dueCycles(1, "46000");
        dueCycles(2, "46000", "46000");
        dueCycles(5, "66100", "46000", "46000", "46000", "46000");
        dueCycles(6, "66100", "46000", "46000", "46000", "46000", "46000");
        dueCycles(6, "66100", "66200");
        dueCycles(7, "6110000001", "66200");
        dueCycles(8, "6110000001", "46000", "66200");
        dueCycles(7, "7110000001", "36200");
        dueCycles(7, "5100000001", "36200");
    }

    private static void unitIsFree() {
        dueEdge(UNIT, 3, "10220", "10110");
        dueEdge(UNIT, 3, "17220", "10110");
        dueEdge(UNIT, 3, "43201", "20101");
        dueEdge(UNIT, 3, "21201", "23101");
        dueEdge(UNIT, 3, "37244", "36133");
        dueEdge(UNIT, 8, "47244", "47133");
        dueEdge(UNIT, 2, "66300", "66100", "66200");
        dueEdge(UNIT, 2, "76300", "56000", "66200");
        dueWaits("each unit beside the others", Program.ran("10100", "20201", "36300", "47400", "66500", "66600"),
                0, 0, 0, 0, 0);
    }

    private static void dueAddressUnits(int four, int five, String... program) {
        ScoreboardCore core = Program.ran(program);
        Check.due("done(4) of " + String.join(" ", program), core.done(4), four);
        Check.due("done(5) of " + String.join(" ", program), core.done(5), five);
    }

    private static void fourIfThatIsFree() {
        dueAddressUnits(1, 0, "66100");
        dueAddressUnits(1, 1, "66100", "66200");
        // 4 is busy up to 5.
        dueAddressUnits(1, 1, Program.spaced(3, "66200", "66100"));
        dueAddressUnits(2, 0, Program.spaced(4, "66200", "66100"));
        // 4 is free in 6, 5 in 7: 4 is taken in both.
        dueAddressUnits(2, 1, Program.spaced(3, "66300", "66100", "66200"));
        dueAddressUnits(2, 1, Program.spaced(4, "66300", "66100", "66200"));
        // 4 waits for X0 up to 14: 5 is taken twice.
        dueAddressUnits(1, 2, "47000", "63100", "66200", "66300");
    }

    private static void resultIsReserved() {
        dueEdge(RESULT, 3, "36300", "10310");
        dueEdge(RESULT, 3, "76300", "10310");
        dueEdge(RESULT, 8, "10300", "47310");
        dueEdge(RESULT, 3, "66100", "66122");
        dueEdge(RESULT, 3, "56000", "56022");
        dueEdge(RESULT, 3, "56600", "56622");
        dueEdge(RESULT, 3, "56700", "56722");
        for (int i = 1; i <= 5; i++) {
            // Xi of a load comes 5 cycles behind its end; for the next load Ai alone would be free by then.
            dueEdge(RESULT, 8, "10" + i + "00", "56" + i + "00");
            dueEdge(RESULT, 8, "56" + i + "00", "56" + i + "00");
            // Its Xi is a result as well: the load is not given out while 47 has it.
            dueEdge(RESULT, 8, "56" + i + "00", "47" + i + "77");
        }
        for (int i : new int[] {0, 6, 7}) {
            dueWaits("Xi is no result with A" + i, Program.ran("47" + i + "55", "66100", "56" + i + "00"),
                    0, 0, 0, i > 5 ? 7 : 0, 0);
        }
        dueWaits("B0 is never reserved", Program.ran("66000", "66000"), 0, 0, 0, 0, 0);
        dueWaits("B1 is", Program.ran("66100", "66100"), 0, 4, 0, 0, 0);
        dueWaits("the unit counts first", Program.ran("10310", "10300"), 4, 0, 0, 0, 0);
        dueWaits("then the result", Program.ran("47310", "10110", "10300"), 4, 4, 0, 0, 0);
    }

    /** Each register that an instruction needs, as each of its operands. */
    private static void registersAreRead() {
        String[] byXj = {"10430", "11430", "12430", "13430", "15430", "16430", "17430", "36430", "37430", "73430",
            "63430", "53030", "7243000001", "6243000001", "5203000001"};
        String[] byXk = {"11403", "12403", "13403", "14403", "15403", "16403", "17403", "22403", "23403", "36403",
            "37403", "47403"};
        for (String one : byXj) {
            dueEdge(READ, 2, one, makerOfX3(one));
        }
        for (String one : byXk) {
            dueEdge(READ, 2, one, makerOfX3(one));
        }
        for (String one : new String[] {"22410", "23410", "76410", "77410", "66410", "56010", "73401", "74401", "75401",
            "76401", "77401", "64401", "55001", "7141000001", "6141000001", "5101000001"}) {
            dueEdge(READ, 2, one, "66100");
        }
        for (String one : new String[] {"74400", "75400", "64400", "65400", "7040000001", "6040000001"}) {
            dueEdge(READ, 2, one, "56000");
        }
        dueEdge(READ, 2, "56600", "10600");
        dueEdge(READ, 2, "56700", "10700");
        // Three registers are needed here, each of which may be the last that is there.
        dueEdge(READ, 2, "53623", "10600");
        dueEdge(READ, 2, "53623", "10200");
        dueEdge(READ, 2, "53623", "66300");
        for (int i = 1; i <= 5; i++) {
            dueEdge(READ, 7, "100" + i + "0", "56" + i + "00");
            dueEdge(READ, 2, "740" + i + "0", "56" + i + "00");
        }
        dueWaits("20 needs Xi, which nobody else may have", Program.ran("43305", "46000", "20301"), 3, 0, 0, 0, 0);
    }

    /** A unit that the reader does not need itself. */
    private static String makerOfX3(String reader) {
        return reader.charAt(0) == '1' ? "36300" : "10300";
    }

    private static void b0IsNeverNeeded() {
        for (String one : new String[] {"76400", "22400", "66200", "56000"}) {
            dueWaits(one + " behind what would change B0", Program.ran("66000", one), 0, 0, 0, 0, 0);
        }
        for (String jump : new String[] {"0200001000", "0400001000", "0500001000", "0600001000", "0700001000"}) {
            dueWaits(jump + " behind what would change B0", Program.ran("66000", jump), 0, 0, 0, 0, 0);
        }
    }

    /** 47 makes X0 in 10, so its reader reads in 11, and who replaces what it reads may end in 12. */
    private static void endBehindReading() {
        dueEdge(END, 4, "36244", "47077", "12302");
        dueEdge(END, 4, "36244", "47077", "12320");
        dueEdge(END, 4, "66100", "47077", "22310");
        dueEdge(END, 4, "76200", "47077", "12302");
        for (int i = 1; i <= 5; i++) {
            dueEdge(END, 4, "56" + i + "00", "47077", "1260" + i);
        }
        // A0 is read by a store that waits for X6.
        dueEdge(END, 4, "56000", "47677", "54600");
        ScoreboardCore core = Program.ran("47077", "12302", "36244");
        Check.due("cycles(): 12 ends in 14, 36 in 12", core.cycles(), 14);
        core = Program.ran("47077", "12302", "56200");
        Check.due("cycles(): the load ends in 12, and X2 comes in 17", core.cycles(), 17);
    }

    private static void endOnlyBehindReadingOfOwnResults() {
        dueWaits("X4 is no operand of 12", Program.ran("47077", "12302", "36444"), 0, 0, 0, 8, 0);
        dueWaits("X6 is not replaced by a store", Program.ran("47077", "12306", "56600"), 0, 0, 0, 8, 0);
        dueWaits("nor X0 by A0", Program.ran("47177", "12310", "56000"), 0, 0, 0, 8, 0);
        dueWaits("10 does not read Xk", Program.ran("47077", "10302", "36244"), 0, 0, 0, 8, 0);
        dueWaits("14 does not read Xj", Program.ran("47077", "14320", "36244"), 0, 0, 0, 8, 0);
        dueWaits("its own reading is before its end anyway", Program.ran("36222"), 0, 0, 0, 0, 0);
        dueWaits("B0 is never replaced", Program.ran("47077", "22300", "66000"), 0, 0, 0, 8, 0);
    }

    /** 53 waits for X0, reads in 11 and ends in 14: the next one for memory may end in 15. */
    private static void endBehindMemory() {
        dueEdge(END, 7, "56700", "47077", "53600");
        dueEdge(END, 7, "56200", "47077", "53100");
        dueEdge(END, 7, "56700", "47077", "53100");
        dueEdge(END, 7, "56200", "47077", "53600");
        Check.due("cycles(): the second load ends in 15, and X2 comes in 20",
                Program.ran("47077", "53100", "56200").cycles(), 20);
        // The third ends behind the second, which ends behind the first.
        ScoreboardCore core = Program.ran("47077", "53600", "56700", "56100");
        Check.due("cycles(): 14, 15, then in unit 4, 19, and 5 more", core.cycles(), 24);
    }

    private static void memoryIsA1ToA7() {
        for (int i = 0; i < 8; i++) {
            int other = i == 7 ? 6 : 7;
            ScoreboardCore core = Program.ran("47077", "53" + i + "00", "56" + other + "00");
            Check.due("waited(4) of a store behind A" + i, core.waited(4), i == 0 ? 0 : 8);
            core = Program.ran("47077", "53" + other + "00", "56" + i + "00");
            Check.due("waited(4) of A" + i + " behind a store", core.waited(4), i == 0 ? 0 : 8);
        }
        dueWaits("6x and 7x are no memory", Program.ran("47077", "53600", "66100"), 0, 0, 0, 8, 0);
    }

    /** An address that is no word's changes what is read or written, but no cycle. */
    private static void outsideMemoryTakesAsLong() {
        dueCycles(10, "5110000777");
        dueCycles(10, "5110001000");
        dueCycles(5, "5160000777");
        dueCycles(5, "5160001000");
        // The first store waits for X6 and ends in 14; the second, given out in 5, could end in 9.
        for (String constant : new String[] {"000777", "001000"}) {
            ScoreboardCore core = Program.ran("47677", "5160" + constant, "46000", "5170" + constant);
            dueWaits("stores at " + constant, core, 0, 0, 0, 8, 6);
            core = Program.ran("5110" + constant, "0301001000");
            dueWaits("a jump behind a load from " + constant, core, 0, 0, 8, 0, 0);
        }
        dueWaits("01 that writes 510", Program.ran("56600", "0100000776"), 0, 0, 4, 0, 0);
        dueWaits("01 that writes nothing", Program.ran("56600", "0100001000"), 0, 0, 4, 0, 0);
    }

    private static void loadsAreA1ToA5() {
        for (int i = 0; i < 8; i++) {
            boolean loads = i >= 1 && i <= 5;
            Check.due("cycles() with A" + i, Program.ran("56" + i + "00").cycles(), loads ? 10 : 5);
            dueCycles(5, "66" + i + "00");
            dueCycles(5, "76" + i + "00");
        }
    }

    private static void jumpIsDone() {
        dueEdge(JUMP, 3, "0303001000", "10300");
        dueEdge(JUMP, 3, "0210001000", "66100");
        for (String op : new String[] {"04", "05", "06", "07"}) {
            dueEdge(JUMP, 3, op + "10001000", "66100");
            dueEdge(JUMP, 3, op + "01001000", "66100");
        }
        for (int i = 1; i <= 5; i++) {
            dueEdge(JUMP, 8, "030" + i + "001000", "56" + i + "00");
        }
        dueWaits("02 needs Bi alone", Program.ran("66100", "0201001000"), 0, 0, 0, 0, 0);
        dueWaits("03 needs no Bi", Program.ran("66100", "0310001000"), 0, 0, 0, 0, 0);
        dueWaits("03 needs no Bj", Program.ran("66100", "0301001000"), 0, 0, 0, 0, 0);
        dueWaits("04 needs no Xj", Program.ran("10100", "0401001000"), 0, 0, 0, 0, 0);
        dueWaits("01 needs no registers", Program.ran("66100", "0111001000"), 0, 0, 0, 0, 0);
    }

    private static void jump01WaitsForMemory() {
        dueEdge(JUMP, 3, "0100001000", "56600");
        dueEdge(JUMP, 3, "0100001000", "56100");
        // 01 does not wait for X1 to come there; the two of memory end in 14 and 15.
        dueEdge(JUMP, 11, "0100001000", "47077", "53600", "56700");
    }

    private static void jump01WaitsForA1ToA7() {
        for (int i = 0; i < 8; i++) {
            ScoreboardCore core = Program.ran("56" + i + "00", "0100001000");
            Check.due("waited(2) of 01 behind A" + i, core.waited(2), i == 0 ? 0 : 4);
        }
        dueWaits("01 behind 7x", Program.ran("76100", "0100001000"), 0, 0, 0, 0, 0);
        dueWaits("only 01 waits for memory", Program.ran("56600", "0200001000"), 0, 0, 0, 0, 0);
    }

    /** 4 cycles behind a jump that goes straight on, 8 behind others, from when it is done. */
    private static void behindAJump() {
        dueCycles(1, "0500000001");
        dueCycles(5, "0500000001", "46000");
        dueCycles(10, "66100", "0510000001", "46000");
        for (String jump : new String[] {"0100000001", "0200000002", "0300000002", "0400000002", "0600000002"}) {
            ScoreboardCore core = Program.laid(jump);
            Program.lay(core, 2, "46000");
            Check.due("run(9) of " + jump, core.run(9), 2);
            Check.due("cycles() of " + jump + " and 46", core.cycles(), 9);
            Check.due("done(7)", core.done(7), 1);
        }
        ScoreboardCore core = Program.laid("66100", "0410000002");
        Program.lay(core, 2, "46000");
        core.run(9);
        Check.due("cycles() of a jump that waits up to 6, and 46", core.cycles(), 14);
    }

    private static void stopIsNotCounted() {
        for (String stop : new String[] {"00000", "30000", "0340000000"}) {
            dueCycles(0, stop);
            dueCycles(1, "46000", stop);
            dueCycles(1, "0500000001", stop);
            dueCycles(5, "66100", stop);
            dueCycles(5, "66100", "46000", "46000", "46000", "46000", stop);
        }
        ScoreboardCore core = Program.ran("0400000005");
        Check.due("cycles() of a jump to 00", core.cycles(), 1);
        core = Program.ran("0400001000");
        Check.due("cycles() of a jump out of memory", core.cycles(), 1);
        Check.due("done(6)", core.done(6), 1);
        Check.due("done(7)", core.done(7), 1);
    }

    private static void stopWaitsForNothing() {
        dueWaits("03 with i 4 does not wait for X3", Program.ran("10300", "0343000001"), 0, 0, 0, 0, 0);
        ScoreboardCore core = Program.ran("47077", "53600", "63100", "71000");
        dueWaits("71 in the last parcel does not wait for a unit", core, 0, 0, 0, 15, 0);
        Check.due("done(4) + done(5)", core.done(4) + core.done(5), 2);
        dueWaits("01 in the last parcel does not wait", Program.ran("56600", "46000", "46000", "01000"), 0, 0, 0, 0, 0);
    }

    /** Run in single steps, nothing waits; run at once, each of these programs does. */
    private static void everyRunHasAnEmptyBoard() {
        dueSteps(new String[] {"10110", "10220"}, 5, 5);
        dueSteps(new String[] {"10310", "36300"}, 5, 5);
        dueSteps(new String[] {"10310", "36433"}, 5, 5);
        dueSteps(new String[] {"56100", "10310"}, 10, 5);
        dueSteps(new String[] {"56100", "0301000000"}, 10, 1);
        dueSteps(new String[] {"56600", "0100000020"}, 5, 1);
        dueSteps(new String[] {"47077", "12302", "36244"}, 10, 5, 5);
        dueSteps(new String[] {"47077", "53600", "56700"}, 10, 5, 5);
        dueSteps(new String[] {"0500000001", "46000", "46000"}, 1, 1, 1);
        dueSteps(new String[] {"6110000001", "66200", "66300"}, 5, 5, 5);
    }

    private static void dueSteps(String[] program, int... cycles) {
        ScoreboardCore core = new ScoreboardCore();
        // Not at word 0, which the stores reach.
        Program.lay(core, 8, program);
        core.start(8);
        String what = String.join(" ", program);
        long all = 0;
        for (int step = 0; step < cycles.length; step++) {
            Check.due(what + ": run(1)", core.run(1), 1);
            all += cycles[step];
            Check.due(what + ": cycles() behind step " + step, core.cycles(), all);
            Check.due(what + ": run(0)", core.run(0), 0);
            Check.due(what + ": cycles() behind run(0)", core.cycles(), all);
        }
        dueWaits(what + " in steps", core, 0, 0, 0, 0, 0);
        Check.due(what + ": done(5) in steps", core.done(5), 0);
    }

    /** The first run has all of the board busy behind its 30th cycle; the second one begins with cycle 1 again. */
    private static void lateCyclesAreForgotten() {
        String[] seconds = {"10200", "20201", "36200", "47277", "66200", "56200", "56600", "76000", "0302000000",
            "0420000000", "0100000050", "12367", "74510"};
        for (String second : seconds) {
            ScoreboardCore core = new ScoreboardCore();
            int behind = Program.lay(core, 8, Program.spaced(30, "46000", "46000"));
            Program.lay(core, behind, "10302", "20202", "36022", "47477", "66200", "56200", "56600", "12302", "36622",
                    "22320", "74020");
            Program.lay(core, 64, second);
            core.start(8);
            Check.due("run(2000)", core.run(2000), 32 + 11);
            core.start(64);
            long cycles = core.cycles();
            long[] waits = new long[5];
            for (int kind = 0; kind < 5; kind++) {
                waits[kind] = core.waited(kind);
            }
            Check.due("run(1) of " + second, core.run(1), 1);
            dueWaits(second + " in a run of its own", core, waits);
            Check.due("cycles() of " + second, core.cycles() - cycles, cyclesAlone(second));
        }
    }

    private static long cyclesAlone(String one) {
        ScoreboardCore core = Program.laid(one);
        core.run(1);
        return core.cycles();
    }
}
