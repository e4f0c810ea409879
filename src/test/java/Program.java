/** Writes programs: instructions in the order given, each as octal text such as "36312" or "7110000005". */
final class Program {
    static final long MINUS_ZERO = (1L << 60) - 1;
    static final long SHORT_MINUS_ZERO = (1 << 18) - 1;

    private static final String NOTHING = "46000";

    private Program() {
    }

    /** Fills up with 46 where an instruction of two parcels would not fit; returns the first free word. */
    static int lay(ScoreboardCore core, int word, String... instructions) {
        StringBuilder parcels = new StringBuilder();
        for (String one : instructions) {
            if (one.length() == 10 && parcels.length() % 20 == 15) {
                parcels.append(NOTHING);
            }
            parcels.append(one);
        }
        while (parcels.length() % 20 != 0) {
            parcels.append("00000");
        }
        int at = word;
        for (int from = 0; from < parcels.length(); from += 20) {
            core.write(at, Long.parseLong(parcels.substring(from, from + 20), 8));
            at++;
        }
        return at;
    }

    /** A new machine with the program at word 0, run to its end. */
    static ScoreboardCore ran(String... instructions) {
        ScoreboardCore core = new ScoreboardCore();
        lay(core, 0, instructions);
        core.run(2000);
        return core;
    }
}
