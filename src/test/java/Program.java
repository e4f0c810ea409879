import java.util.Arrays;

/** Writes programs: instructions in the order given, each as octal text such as "36312" or "7110000005". */
final class Program {
    static final long MINUS_ZERO = (1L << 60) - 1;
    static final long SHORT_MINUS_ZERO = (1 << 18) - 1;
    /** The numbers of A0 and B0 among the registers; X0 is 0. */
    static final int A = 8;
    static final int B = 16;

    private static final String NOTHING = "46000";

    private Program() {
    }

    /** Fills up with 46 where an instruction of two parcels would not fit; returns the first free word. */
    static int lay(ScoreboardCore core, int word, String... instructions) {
        StringBuilder parcels = new StringBuilder();
        for (String one : instructions) {
            if (one.length() == 10 && parcels.length() % 20 == 15) {
                parcels.append(NOTHING);
            }
            parcels.append(one);
        }
        while (parcels.length() % 20 != 0) {
            parcels.append("00000");
        }
        int at = word;
        for (int from = 0; from < parcels.length(); from += 20) {
            core.write(at, Long.parseLong(parcels.substring(from, from + 20), 8));
            at++;
        }
        return at;
    }

    /** A new machine with the program at word 0. */
    static ScoreboardCore laid(String... instructions) {
        ScoreboardCore core = new ScoreboardCore();
        lay(core, 0, instructions);
        return core;
    }

    /** A new machine with the program at word 0, run to its end. */
    static ScoreboardCore ran(String... instructions) {
        ScoreboardCore core = laid(instructions);
        core.run(2000);
        return core;
    }

    /** An instruction of two parcels: OP, i and j as four digits to the base 8, and K. */
    static String withK(String digits, long constant) {
        return digits + String.format("%06o", constant);
    }

    /** Some instructions, then 46 so many times, then one more. */
    static String[] spaced(int nothings, String last, String... before) {
        String[] all = new String[before.length + nothings + 1];
        Arrays.fill(all, NOTHING);
        System.arraycopy(before, 0, all, 0, before.length);
        all[all.length - 1] = last;
        return all;
    }
}
