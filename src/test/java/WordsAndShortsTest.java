/** "Terms", words and short ones: zeros, sums, differences, extended, compared, B0. */
public final class WordsAndShortsTest {
    private static final int A = Program.A;
    private static final int B = Program.B;

    public static void main(String[] args) {
        wordSums();
        shortSums();
        highBitsOfXAreLeftOut();
        jumpsToSums();
        extended();
        zeroOrNotZero();
        highestBitOrNot();
        compared();
        b0();
        Check.end();
    }

    /** Rows of first, second and sum, of numbers whose -0 is given: all edges at which a sum comes round or not. */
    private static long[][] sumsWith(long minusZero) {
        long highest = (minusZero + 1) / 2;
        return new long[][] {
            {5, 7, 12},
            {5, minusZero - 7, minusZero - 2},
            {7, minusZero - 5, 2},
            {0, 0, 0},
            // -0 becomes 0, but if both were -0
            {0, minusZero, 0},
            {minusZero, 0, 0},
            {minusZero, minusZero, minusZero},
            {minusZero - 1, 1, 0},
            {1, minusZero - 1, 0},
            {highest - 1, highest, 0},
            // one below -0 does not
            {minusZero - 1, 0, minusZero - 1},
            {minusZero - 2, 1, minusZero - 1},
            {highest - 1, highest - 1, minusZero - 1},
            // what goes beyond comes round, from 2^60 (2^18) on
            {minusZero, 1, 1},
            {1, minusZero, 1},
            {minusZero - 1, 2, 1},
            {highest, highest, 1},
            {minusZero - 1, 3, 2},
            {minusZero, minusZero - 1, minusZero - 1},
            {minusZero - 1, minusZero, minusZero - 1},
            {minusZero - 1, minusZero - 1, minusZero - 2},
            {highest, minusZero, highest},
            {highest, minusZero - 1, highest - 1},
            // and from the highest number on to the lowest one nothing comes round
            {highest - 1, 1, highest},
        };
    }

    private static void wordSums() {
        long minusZero = Program.MINUS_ZERO;
        for (long[] row : sumsWith(minusZero)) {
            dueOfWords("36312", row[0], row[1], row[2]);
            dueOfWords("37312", row[0], minusZero - row[1], row[2]);
        }
    }

    private static void dueOfWords(String instruction, long x1, long x2, long want) {
        ScoreboardCore core = Program.laid(instruction);
        core.put(1, x1);
        core.put(2, x2);
        core.put(3, 0123);
        core.run(1);
        Check.dueOctal(instruction + " of " + Long.toOctalString(x1) + ", " + Long.toOctalString(x2),
                core.register(3), want);
    }

    private static void shortSums() {
        for (long[] row : sumsWith(Program.SHORT_MINUS_ZERO)) {
            for (int form = 0; form < 8; form++) {
                dueOfShorts(form, row);
            }
        }
    }

    /** The same form into A0, B3 and X3; only those of register 1 and 2 that the form names hold its numbers. */
    private static void dueOfShorts(int form, long[] row) {
        long minusZero = Program.SHORT_MINUS_ZERO;
        long first = row[0];
        boolean turned = form == 5 || form == 7;
        long second = turned ? minusZero - row[1] : row[1];
        String[] firstRegisters = {"A", "B", "X", "X", "A", "A", "B", "B"};
        ScoreboardCore core = Program.laid(shortForm(5, form, 0, second), shortForm(6, form, 3, second),
                shortForm(7, form, 3, second));
        core.put(1, firstRegisters[form].equals("X") ? first : 0333333);
        core.put(A + 1, firstRegisters[form].equals("A") ? first : 0222222);
        core.put(B + 1, firstRegisters[form].equals("B") ? first : 0111111);
        core.put(B + 2, form >= 3 ? second : 0444444);
        core.put(2, 0555555);
        core.put(A + 2, 0666666);
        core.run(20);
        String what = "form " + form + " of " + Long.toOctalString(first) + ", " + Long.toOctalString(second) + ": ";
        long extension = row[2] > minusZero / 2 ? Program.MINUS_ZERO - minusZero : 0;
        Check.dueOctal(what + "A0", core.register(A), row[2]);
        Check.dueOctal(what + "B3", core.register(B + 3), row[2]);
        Check.dueOctal(what + "X3", core.register(3), row[2] + extension);
    }

    private static String shortForm(int kind, int form, int i, long second) {
        String digits = "" + kind + form + i + "1";
        return form < 3 ? Program.withK(digits, second) : digits + "2";
    }

    private static void highBitsOfXAreLeftOut() {
        long high = Program.MINUS_ZERO - Program.SHORT_MINUS_ZERO;
        ScoreboardCore core = Program.laid("7231000001", "73412");
        core.put(1, high | 0377776);
        core.put(B + 2, 2);
        core.run(2);
        Check.dueOctal("X3 of X1's lowest 18 bits and 1", core.register(3), 0377777);
        Check.dueOctal("X4 of X1's lowest 18 bits and B2", core.register(4), high | 0400000);
        core = Program.laid("7231000000");
        core.put(1, 1L << 18);
        core.run(1);
        Check.dueOctal("X3 of 2^18, whose lowest 18 bits are 0", core.register(3), 0);
    }

    private static void jumpsToSums() {
        for (long[] row : sumsWith(Program.SHORT_MINUS_ZERO)) {
            ScoreboardCore core = Program.laid(Program.withK("0210", row[1]));
            core.put(B + 1, row[0]);
            String what = "02 of " + Long.toOctalString(row[0]) + ", " + Long.toOctalString(row[1]) + ": ";
            Check.due(what + "run(1)", core.run(1), 1);
            Check.due(what + "place()", core.place(), 4 * row[2]);
        }
    }

    private static void extended() {
        long high = Program.MINUS_ZERO - Program.SHORT_MINUS_ZERO;
        long[] shorts = {0, 1, 0377776, 0377777, 0400000, 0400001, 0777776};
        for (long number : shorts) {
            ScoreboardCore core = Program.laid(Program.withK("7130", number));
            core.run(1);
            Check.dueOctal("X3 of " + Long.toOctalString(number), core.register(3),
                    number >= 0400000 ? high | number : number);
        }
        ScoreboardCore core = Program.laid("7130777777", "7141777777");
        core.put(B + 1, -1);
        core.run(2);
        Check.dueOctal("X3 of 0 + -0", core.register(3), 0);
        Check.dueOctal("X4 of -0 + -0, a short -0", core.register(4), Program.MINUS_ZERO);
    }

    private static int placeBehind(String jump, int k, long first, int l, long second) {
        ScoreboardCore core = Program.laid(jump);
        core.put(k, first);
        core.put(l, second);
        core.run(1);
        return core.place();
    }

    private static void dueWordTest(int test, long word, boolean goes) {
        Check.due("place() behind 03 with i " + test + " and " + Long.toOctalString(word),
                placeBehind("03" + test + "5000020", 5, word, 5, word), goes ? 64 : 2);
    }

    /** Each word that has a single bit, and each that lacks one, is neither of the zeros. */
    private static void zeroOrNotZero() {
        long minusZero = Program.MINUS_ZERO;
        dueWordTest(0, 0, true);
        dueWordTest(0, minusZero, true);
        dueWordTest(1, 0, false);
        dueWordTest(1, minusZero, false);
        for (int bit = 0; bit < 60; bit++) {
            dueWordTest(0, 1L << bit, false);
            dueWordTest(0, minusZero ^ 1L << bit, false);
            dueWordTest(1, 1L << bit, true);
            dueWordTest(1, minusZero ^ 1L << bit, true);
        }
    }

    private static void highestBitOrNot() {
        long highest = 1L << 59;
        for (long word : new long[] {0, 1, highest - 1}) {
            dueWordTest(2, word, true);
            dueWordTest(3, word, false);
        }
        for (long word : new long[] {highest, highest + 1, Program.MINUS_ZERO - 1, Program.MINUS_ZERO}) {
            dueWordTest(2, word, false);
            dueWordTest(3, word, true);
        }
    }

    /** Short ones in their order from the lowest on; the two zeros have the same rank. */
    private static void compared() {
        long[] numbers = {0400000, 0400001, 0777775, 0777776, 0777777, 0, 1, 2, 0377776, 0377777};
        int[] ranks = {0, 1, 2, 3, 4, 4, 5, 6, 7, 8};
        for (int m = 0; m < numbers.length; m++) {
            for (int n = 0; n < numbers.length; n++) {
                int order = Integer.compare(ranks[m], ranks[n]);
                dueCompared(numbers[m], numbers[n], order);
            }
        }
    }

    private static void dueCompared(long first, long second, int order) {
        boolean[] goes = {order == 0, order != 0, order >= 0, order < 0};
        for (int op = 4; op < 8; op++) {
            Check.due("place() behind 0" + op + " of " + Long.toOctalString(first) + ", " + Long.toOctalString(second),
                    placeBehind("0" + op + "12000020", B + 1, first, B + 2, second), goes[op - 4] ? 64 : 2);
        }
    }

    private static void b0() {
        ScoreboardCore core = new ScoreboardCore();
        core.put(B, -1);
        core.put(B + 1, 7);
        core.put(1, 9);
        core.put(A + 1, 11);
        Check.due("B0 after put", core.register(B), 0);
        for (int form = 0; form < 8; form++) {
            String instruction = form < 3 ? "6" + form + "01000005" : "6" + form + "011";
            Program.lay(core, 0, instruction, "7120000003", "66301");
            core.start(0);
            core.run(10);
            Check.due("B0 behind " + instruction, core.register(B), 0);
            Check.due("X2 of B0 + 3 behind " + instruction, core.register(2), 3);
            Check.due("B3 of B0 + B1 behind " + instruction, core.register(B + 3), 7);
        }
        Check.due("B1, beside B0, can be put", core.register(B + 1), 7);
        core.put(A + 7, 5);
        Check.due("so can A7", core.register(A + 7), 5);
        Check.due("place() behind 04 of B0, B0", placeBehind("0400000020", B, 1, B, 2), 64);
        Check.due("place() behind 07 of B0, B1", placeBehind("0701000020", B, 5, B + 1, 1), 64);
        Check.due("place() behind 02 of B0", placeBehind("0200000020", B, 5, B + 1, 1), 64);
    }
}
