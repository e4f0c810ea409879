/**
 * Promise 7 with "Terms": what 10 to 17, 36, 37, 46 and the jumps do. Sums and comparing at their edges stand in
 * WordsAndShortsTest, 20 to 23, 43, 47 in ShiftsTest, memory and 01 in AddressesTest.
 */
public final class InstructionsTest {
    private static final int A = Program.A;
    private static final int B = Program.B;

    public static void main(String[] args) {
        logic();
        resultMayBeOperand();
        nothing();
        fourParcels();
        jumpsFromEveryParcel();
        jumpsNotTaken();
        operandsOfJumps();
        Check.end();
    }

    /** X1 and X2 are the operands, X3 starts as 0123 and is the result. */
    private static void dueOfWords(String instruction, long x1, long x2, long want) {
        ScoreboardCore core = Program.laid(instruction);
        core.put(1, x1);
        core.put(2, x2);
        core.put(3, 0123);
        core.run(1);
        Check.dueOctal(instruction + " of " + Long.toOctalString(x1) + ", " + Long.toOctalString(x2),
                core.register(3), want);
    }

    private static long minus(long number) {
        return Program.MINUS_ZERO - number;
    }

    private static void logic() {
        dueOfWords("10312", 0707, 0770, 0707);
        dueOfWords("11312", 0707, 0770, 0700);
        dueOfWords("12312", 0707, 0770, 0777);
        dueOfWords("13312", 0707, 0770, 0077);
        dueOfWords("14312", 0707, 0770, minus(0770));
        dueOfWords("15312", 0707, 0770, 0007);
        dueOfWords("16312", 0707, 0770, minus(0070));
        dueOfWords("17312", 0707, 0770, minus(0077));
        dueOfWords("14312", 0, 0, Program.MINUS_ZERO);
        dueOfWords("14312", 0, Program.MINUS_ZERO, 0);
        dueOfWords("10312", Program.MINUS_ZERO, 0, Program.MINUS_ZERO);
        dueOfWords("13312", Program.MINUS_ZERO, Program.MINUS_ZERO, 0);
        dueOfWords("17312", 0, 0, Program.MINUS_ZERO);
    }

    private static void resultMayBeOperand() {
        ScoreboardCore core = Program.laid("36111", "37212", "15331");
        core.put(1, 3);
        core.put(2, 100);
        core.put(3, 0777);
        core.run(3);
        Check.due("X1 of X1 + X1", core.register(1), 6);
        Check.dueOctal("X2 of X1 - X2", core.register(2), minus(94));
        Check.dueOctal("X3 of X3 and turned X1", core.register(3), 0771);
    }

    private static void nothing() {
        ScoreboardCore core = Program.laid("46333", "46777");
        for (int k = 0; k < 24; k++) {
            core.put(k, 50 + k);
        }
        Check.due("run(2) of 46", core.run(2), 2);
        for (int k = 0; k < 24; k++) {
            Check.due("register(" + k + ") behind 46", core.register(k), k == B ? 0 : 50 + k);
        }
        Check.due("place()", core.place(), 2);
    }

    /** The highest parcel comes first; each step shows one more result. */
    private static void fourParcels() {
        ScoreboardCore core = new ScoreboardCore();
        core.write(0, Long.parseLong("43101" + "43201" + "43301" + "43401", 8));
        core.write(1, Long.parseLong("43501" + "00000" + "00000" + "00000", 8));
        for (int step = 1; step <= 5; step++) {
            Check.due("run(1)", core.run(1), 1);
            Check.due("place() behind step " + step, core.place(), step);
            for (int k = 1; k <= 5; k++) {
                Check.dueOctal("X" + k + " behind step " + step, core.register(k), k <= step ? 1L << 59 : 0);
            }
        }
    }

    /** Always on at the word's first parcel. */
    private static void jumpsFromEveryParcel() {
        for (int parcel = 0; parcel < 3; parcel++) {
            for (int op = 1; op < 8; op++) {
                boolean wantsLess = op == 7;
                boolean wantsOther = op == 5;
                ScoreboardCore core = new ScoreboardCore();
                String jump = Program.withK("0" + op + "01", op == 1 ? 15 : 16);
                core.write(0, Long.parseLong(("46000".repeat(parcel) + jump + "0".repeat(20)).substring(0, 20), 8));
                core.put(B + 1, wantsLess || wantsOther ? 1 : 0);
                Check.due("run() with 0" + op + " in parcel " + parcel, core.run(parcel + 1), parcel + 1);
                Check.due("place() behind 0" + op + " in parcel " + parcel, core.place(), 64);
                Check.due("stopped()", core.stopped(), 3);
            }
        }
    }

    private static void jumpsNotTaken() {
        for (int parcel = 0; parcel < 3; parcel++) {
            ScoreboardCore core = new ScoreboardCore();
            core.write(0, Long.parseLong(("46000".repeat(parcel) + "0500000020" + "0".repeat(20)).substring(0, 20), 8));
            core.run(parcel + 1);
            Check.due("place() behind 05 in parcel " + parcel, core.place(), parcel + 2);
        }
    }

    /** Only the registers that the jump names tell whether, and where, it goes. */
    private static void operandsOfJumps() {
        ScoreboardCore core = Program.laid("0234000005");
        for (int k = 0; k < 24; k++) {
            core.put(k, 1000 + k);
        }
        core.put(B + 3, 7);
        core.run(1);
        Check.due("place() behind 02 with B3", core.place(), 48);
        core = Program.laid("0334000005", "0304000005");
        for (int k = 0; k < 24; k++) {
            core.put(k, k == 4 ? 0 : -2);
        }
        core.run(1);
        Check.due("place() behind 03 that asks for X4's highest bit", core.place(), 2);
        core.run(1);
        Check.due("place() behind 03 that asks whether X4 is 0", core.place(), 20);
        core = Program.laid("0134000777");
        core.put(3, 50);
        core.put(A + 3, 50);
        core.put(B + 3, 50);
        core.run(1);
        Check.due("place() behind 01, with K alone", core.place(), 2048);
    }
}
