import java.util.Arrays;
import java.util.List;

/**
 * "Terms", the board: for every OP which registers it needs, which are its results, and that it waits for, reserves
 * and changes no others.
 */
public final class NeedsAndResultsTest {
    private static final int A = Program.A;
    private static final int B = Program.B;

    /** K begins with the digit that is k in other instructions: it is no register. */
    private static final String CONSTANT = "00100";

    /** An instruction, the registers that it needs but for its results, and its results. */
    private static final String[][] ROWS = {
        {"10167", "X6", "X1"},
        {"11167", "X6 X7", "X1"},
        {"12167", "X6 X7", "X1"},
        {"13167", "X6 X7", "X1"},
        {"14167", "X7", "X1"},
        {"15167", "X6 X7", "X1"},
        {"16167", "X6 X7", "X1"},
        {"17167", "X6 X7", "X1"},
        {"20167", "", "X1"},
        {"21167", "", "X1"},
        {"22167", "B6 X7", "X1"},
        {"23167", "B6 X7", "X1"},
        {"36167", "X6 X7", "X1"},
        {"37167", "X6 X7", "X1"},
        {"43167", "", "X1"},
        {"46167", "", ""},
        {"47167", "X7", "X1"},
        {"5?167", "", "A1 X1"},
        {"5?267", "", "A2 X2"},
        {"5?367", "", "A3 X3"},
        {"5?467", "", "A4 X4"},
        {"5?567", "", "A5 X5"},
        {"5?067", "", "A0"},
        {"5?765", "X7", "A7"},
        {"5?675", "X6", "A6"},
        {"6?167", "", "B1"},
        {"6?067", "", ""},
        {"7?167", "", "X1"},
        {"7?067", "", "X0"},
    };

    /** Which of j and k the eight forms need, as registers of which kind. */
    private static final String[] FORMS = {"Aj", "Bj", "Xj", "Xj Bk", "Aj Bk", "Aj Bk", "Bj Bk", "Bj Bk"};

    /** Jumps without their K, and what they need. */
    private static final String[][] JUMPS = {
        {"0167", ""},
        {"0267", "B6"},
        {"0317", "X7"},
        {"0467", "B6 B7"},
        {"0567", "B6 B7"},
        {"0667", "B6 B7"},
        {"0767", "B6 B7"},
    };

    public static void main(String[] args) {
        for (String[] row : ROWS) {
            if (row[0].charAt(1) != '?') {
                dueRow(row[0], row[1], row[2]);
                continue;
            }
            for (int form = 0; form < 8; form++) {
                dueRow(inForm(row[0], form), needsInForm(row, form), row[2]);
            }
        }
        for (String[] jump : JUMPS) {
            dueJump(jump[0] + "100000", jump[1]);
        }
        Check.end();
    }

    private static String inForm(String row, int form) {
        String one = row.replace('?', (char) ('0' + form));
        return form < 3 ? one + CONSTANT : one;
    }

    private static String needsInForm(String[] row, int form) {
        String needs = FORMS[form].replace('j', row[0].charAt(3)).replace('k', row[0].charAt(4));
        return needs + " " + row[1];
    }

    private static void dueRow(String one, String needs, String results) {
        List<String> needed = Arrays.asList(needs.split(" "));
        List<String> made = Arrays.asList(results.split(" "));
        for (String register : registers()) {
            dueWaitsFor(one, register, needed.contains(register), made.contains(register));
            dueReserves(one, register, made.contains(register));
        }
        dueChangesOnly(one, made);
    }

    /** All but B0, which is never reserved. */
    private static String[] registers() {
        return "X0 X1 X2 X3 X4 X5 X6 X7 A0 A1 A2 A3 A4 A5 A6 A7 B1 B2 B3 B4 B5 B6 B7".split(" ");
    }

    /** A1 to A5 are not made without X1 to X5: no single maker tells them apart. */
    private static boolean madeAlone(String register) {
        return register.charAt(0) != 'A' || "067".indexOf(register.charAt(1)) >= 0;
    }

    /** The maker reserves its register for some cycles, in a unit that the instruction does not wait for. */
    private static String maker(String register, String one) {
        char number = register.charAt(1);
        switch (register.charAt(0)) {
            case 'A':
                return "56" + number + "00";
            case 'B':
                return "66" + number + "00";
            default:
                return (one.startsWith("47") ? "36" : "47") + number + "00";
        }
    }

    private static void dueWaitsFor(String one, String register, boolean needs, boolean makes) {
        if (!madeAlone(register)) {
            return;
        }
        ScoreboardCore core = Program.ran(maker(register, one), one);
        String what = " of " + one + " behind what makes " + register;
        Check.due("waited(0)" + what, core.waited(0), 0);
        Check.due("whether waited(1)" + what, Long.signum(core.waited(1)), makes ? 1 : 0);
        Check.due("whether waited(3)" + what, Long.signum(core.waited(3)), needs && !makes ? 1 : 0);
    }

    /** A probe needs one register alone, and its own result is none of the instruction's. */
    private static void dueReserves(String one, String register, boolean makes) {
        char number = register.charAt(1);
        String what = " of a probe of " + register + " behind " + one;
        switch (register.charAt(0)) {
            case 'A':
                char free = one.charAt(2) == '5' ? '4' : '5';
                ScoreboardCore core = Program.ran(one, "74" + free + number + "0");
                Check.due("whether waited(3)" + what, Long.signum(core.waited(3)), makes ? 1 : 0);
                Check.due("waited(1)" + what, core.waited(1), 0);
                break;
            case 'B':
                dueProbe(what, one, "04" + number + number + "001000", makes);
                break;
            default:
                dueProbe(what, one, "030" + number + "001000", makes);
                break;
        }
    }

    private static void dueProbe(String what, String one, String jump, boolean makes) {
        Check.due("whether waited(2)" + what, Long.signum(Program.ran(one, jump).waited(2)), makes ? 1 : 0);
    }

    /** Where no result is named, nothing changes; a store changes the word at its address alone. */
    private static void dueChangesOnly(String one, List<String> made) {
        ScoreboardCore core = Program.laid(one);
        for (int k = 0; k < 24; k++) {
            core.put(k, 40 + 3 * k);
        }
        for (int address = 1; address < 300; address++) {
            core.write(address, 0700000 + address);
        }
        Check.due("run(1) of " + one, core.run(1), 1);
        int i = one.charAt(2) - '0';
        long stored = one.charAt(0) == '5' && i >= 6 ? core.register(A + i) : -1;
        for (int k = 0; k < 24; k++) {
            String name = "XAB".charAt(k / 8) + "" + k % 8;
            if (!made.contains(name)) {
                Check.due(name + " behind " + one, core.register(k), k == B ? 0 : 40 + 3 * k);
            }
        }
        for (int address = 200; address < 300; address++) {
            long want = address == stored ? core.register(i) : 0700000 + address;
            Check.due("read(" + address + ") behind " + one, core.read(address), want);
        }
    }

    private static void dueJump(String jump, String needs) {
        List<String> needed = Arrays.asList(needs.split(" "));
        for (String register : registers()) {
            if (register.charAt(0) != 'A') {
                ScoreboardCore core = Program.ran(maker(register, jump), jump);
                Check.due("whether waited(2) of " + jump + " behind what makes " + register,
                        Long.signum(core.waited(2)), needed.contains(register) ? 1 : 0);
            }
        }
    }
}
