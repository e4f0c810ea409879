/** Promises 6, 8 and 9: start, stopped, place; with all that stops the machine. */
public final class StartStopPlaceTest {
    private static final String[] WITH_CONSTANT = {"01", "02", "03", "04", "05", "06", "07", "50", "51", "52", "60",
        "61", "62", "70", "71", "72"};

    public static void main(String[] args) {
        start();
        startEverywhere();
        startEndsEveryStop();
        wrongStarts();
        stopsInEveryParcel();
        stopIsTakenLast();
        jumpsByXUpToThree();
        twoParcelsWhereOneIsLeft();
        oneParcelWhereOneIsLeft();
        everyOp();
        jumpsAtTheEdgeOfMemory();
        goingOnAtTheEdgeOfMemory();
        stopsWithTwoAtOnce();
        stoppedUntilStart();
        Check.end();
    }

    private static void dueState(String what, ScoreboardCore core, int stopped, int place) {
        Check.due(what + ": stopped()", core.stopped(), stopped);
        Check.due(what + ": place()", core.place(), place);
    }

    private static void start() {
        ScoreboardCore core = Program.laid("46000", "46000", "46000", "46000");
        core.run(3);
        dueState("three parcels on", core, 3, 3);
        core.start(0);
        dueState("start(0)", core, 3, 0);
        core.start(511);
        dueState("start(511)", core, 3, 2044);
        core.run(1);
        dueState("word 511 is 0", core, 0, 2044);
    }

    private static void startEverywhere() {
        for (int word = 0; word < 512; word++) {
            ScoreboardCore core = new ScoreboardCore();
            Program.lay(core, word, "46000", "30000");
            core.start(word);
            dueState("start(" + word + ")", core, 3, 4 * word);
            Check.due("run(9) from word " + word, core.run(9), 1);
            dueState("stopped in word " + word, core, 1, 4 * word + 1);
        }
    }

    private static void startEndsEveryStop() {
        String[] stops = {"00000", "30000", "0400001000"};
        for (int code = 0; code < 3; code++) {
            ScoreboardCore core = Program.ran(stops[code]);
            Check.due("stopped()", core.stopped(), code);
            Program.lay(core, 9, "46000", "46000");
            core.start(9);
            dueState("start(9) behind a stop with " + code, core, 3, 36);
            Check.due("run(1) behind a stop with " + code, core.run(1), 1);
            dueState("it runs again", core, 3, 37);
        }
    }

    private static void wrongStarts() {
        ScoreboardCore core = new ScoreboardCore();
        core.run(1);
        for (int word : new int[] {-1, 512, -512, 1024, 262143, Integer.MIN_VALUE, Integer.MAX_VALUE}) {
            Check.dueThrow("start(" + word + ")", IllegalArgumentException.class, () -> core.start(word));
        }
        dueState("wrong starts", core, 0, 0);
        core.start(5);
        Check.dueThrow("start(512)", IllegalArgumentException.class, () -> core.start(512));
        dueState("a wrong start behind a right one", core, 3, 20);
    }

    /** What stops with 0 or 1 is not gone past, whatever its other bits are. */
    private static void stopsInEveryParcel() {
        String[] stops = {"00000", "00777", "24000", "45777", "03401", "03701"};
        for (int n = 0; n < stops.length; n++) {
            for (int parcel = 0; parcel < 4; parcel++) {
                String parcels = "46000".repeat(parcel) + stops[n] + "46000".repeat(3 - parcel);
                ScoreboardCore core = new ScoreboardCore();
                core.write(6, Long.parseLong(parcels, 8));
                core.start(6);
                Check.due("run(9) of " + parcels, core.run(9), parcel);
                dueState(parcels, core, n < 2 ? 0 : 1, 24 + parcel);
            }
        }
    }

    private static void stopIsTakenLast() {
        for (String stop : new String[] {"00000", "30000"}) {
            int code = stop.equals("00000") ? 0 : 1;
            ScoreboardCore core = Program.laid("46000", stop);
            Check.due("run(1)", core.run(1), 1);
            dueState("a stop comes next, but is not taken yet", core, 3, 1);
            Check.due("run(0)", core.run(0), 0);
            dueState("run(0) takes nothing", core, 3, 1);
            Check.due("run(1)", core.run(1), 0);
            dueState("it is taken", core, code, 1);
        }
    }

    private static void jumpsByXUpToThree() {
        for (int i = 0; i < 8; i++) {
            ScoreboardCore core = Program.laid("46000", "03" + i + "1000300");
            Check.due("run(2) with 03 and i " + i, core.run(2), i < 4 ? 2 : 1);
            boolean goes = i == 0 || i == 2;
            dueState("03 with i " + i, core, i < 4 ? 3 : 1, i > 3 ? 1 : goes ? 4 * 0300 : 3);
            Check.due("done(6)", core.done(6), i < 4 ? 1 : 0);
        }
    }

    private static void twoParcelsWhereOneIsLeft() {
        for (String op : WITH_CONSTANT) {
            ScoreboardCore core = Program.ran("46000", "46000", "46000", op + "000", "46000");
            dueState(op + " in the last parcel", core, 1, 3);
            for (int parcel = 0; parcel < 3; parcel++) {
                String parcels = "46000".repeat(parcel) + op + "00000300" + "46000".repeat(2 - parcel);
                ScoreboardCore fits = new ScoreboardCore();
                fits.write(0, Long.parseLong(parcels, 8));
                Check.due(op + " in parcel " + parcel, fits.run(parcel + 1), parcel + 1);
                Check.due(op + " in parcel " + parcel + ": stopped()", fits.stopped(), 3);
            }
        }
    }

    private static void oneParcelWhereOneIsLeft() {
        String[] without = {"10", "11", "12", "13", "14", "15", "16", "17", "20", "21", "22", "23", "36", "37", "43",
            "46", "47", "53", "54", "55", "56", "57", "63", "64", "65", "66", "67", "73", "74", "75", "76", "77"};
        for (String op : without) {
            ScoreboardCore core = Program.laid("46000", "46000", "46000", op + "000");
            Check.due(op + " in the last parcel: run(4)", core.run(4), 4);
            dueState(op + " in the last parcel", core, 3, 4);
        }
    }

    private static void everyOp() {
        for (int op = 0; op < 64; op++) {
            boolean known = op > 0 && op <= 023 || op == 036 || op == 037 || op == 043 || op >= 046;
            ScoreboardCore core = new ScoreboardCore();
            core.write(0, (long) op << 54);
            Check.due("run(1) of OP " + Integer.toOctalString(op), core.run(1), known ? 1 : 0);
            Check.due("stopped() behind OP " + Integer.toOctalString(op), core.stopped(), known ? 3 : op == 0 ? 0 : 1);
        }
    }

    /** X1 and B1 are 1, B2 is -0: each of these jumps is taken, to a word inside memory or not. */
    private static void jumpsAtTheEdgeOfMemory() {
        int[] targets = {0, 1, 510, 511, 512, 513, 0377777, 0400000, 0777776, 0777777};
        String[] jumps = {"0300", "0311", "0320", "0400", "0501", "0610", "0701"};
        for (int target : targets) {
            for (String jump : jumps) {
                dueJump(Program.withK(jump, target), target);
            }
        }
        dueJump("0210000776", 511);
        dueJump("0210000777", 512);
        dueJump("0210777776", 0);
        dueJump("0210777775", 0777776);
        dueJump("0220777777", 0777777);
        dueJump("0220000000", 0);
    }

    private static void dueJump(String jump, int target) {
        ScoreboardCore core = new ScoreboardCore();
        Program.lay(core, 20, "46000", jump);
        core.put(1, 1);
        core.put(Program.B + 1, 1);
        core.put(Program.B + 2, -1);
        core.start(20);
        Check.due("run(2) with " + jump, core.run(2), 2);
        dueState(jump, core, target < 512 ? 3 : 2, 4 * target);
    }

    private static void goingOnAtTheEdgeOfMemory() {
        for (int word = 509; word < 512; word++) {
            ScoreboardCore core = new ScoreboardCore();
            Program.lay(core, word, "46000", "46000", "46000", "46000");
            core.start(word);
            Check.due("run(3) in word " + word, core.run(3), 3);
            dueState("in the last parcel of word " + word, core, 3, 4 * word + 3);
            Check.due("run(9) in word " + word, core.run(9), 1);
            dueState("behind word " + word, core, word < 511 ? 0 : 2, 4 * word + 4);
        }
    }

    private static void stopsWithTwoAtOnce() {
        ScoreboardCore core = Program.laid("0400001130");
        Check.due("run(1) of a jump to 600", core.run(1), 1);
        dueState("a jump to 600", core, 2, 2400);
        Check.due("run(1) of the stopped machine", core.run(1), 0);
        dueState("it stays there", core, 2, 2400);
        Program.lay(core, 511, "46000", "46000", "0500000000");
        core.start(511);
        Check.due("run(3) up to the end of memory", core.run(3), 3);
        dueState("a jump that is none in the last parcels", core, 2, 2048);
    }

    private static void stoppedUntilStart() {
        ScoreboardCore core = new ScoreboardCore();
        core.run(1);
        Program.lay(core, 0, "46000", "46000");
        Check.due("run(5) of a stopped machine", core.run(5), 0);
        dueState("a stopped machine", core, 0, 0);
        Check.due("its cycles()", core.cycles(), 0);
        core.start(0);
        Check.due("run(5) behind start", core.run(5), 2);
        dueState("it stopped again", core, 0, 2);
    }
}
