/** Promise 7 with "Terms": what each instruction makes of registers and memory. */
public final class InstructionsTest {
    private static final long MINUS_ZERO = Program.MINUS_ZERO;
    private static final long HIGHEST = 1L << 59;
    private static final int A = 8;
    private static final int B = 16;

    public static void main(String[] args) {
        logic();
        shifts();
        shiftsByB();
        masks();
        sums();
        counts();
        shortSums();
        shortZeros();
        extended();
        b0StaysZero();
        loads();
        stores();
        outsideMemory();
        jumpsWithX();
        jumpsWithB();
        jump01();
        jump02();
        Check.end();
    }

    /** X1 and X2 are the operands, X3 starts as 0123 and is the result. */
    private static long madeOfWords(String instruction, long x1, long x2) {
        ScoreboardCore core = new ScoreboardCore();
        core.put(1, x1);
        core.put(2, x2);
        core.put(3, 0123);
        Program.lay(core, 0, instruction);
        core.run(1);
        return core.register(3);
    }

    private static void dueOfWords(String instruction, long x1, long x2, long want) {
        Check.dueOctal(instruction + " of " + Long.toOctalString(x1) + ", " + Long.toOctalString(x2),
                madeOfWords(instruction, x1, x2), want);
    }

    private static long minus(long number) {
        return number ^ MINUS_ZERO;
    }

    private static void logic() {
        dueOfWords("10310", 0707, 0770, 0707);
        dueOfWords("11312", 0707, 0770, 0700);
        dueOfWords("12312", 0707, 0770, 0777);
        dueOfWords("13312", 0707, 0770, 0077);
        dueOfWords("14312", 0707, 0770, minus(0770));
        dueOfWords("15312", 0707, 0770, 0007);
        dueOfWords("16312", 0707, 0770, minus(0070));
        dueOfWords("17312", 0707, 0770, minus(0077));
        dueOfWords("14302", 0, 0, MINUS_ZERO);
        dueOfWords("10310", MINUS_ZERO, 0, MINUS_ZERO);
    }

    private static long shifted(String instruction, long before) {
        ScoreboardCore core = new ScoreboardCore();
        core.put(3, before);
        Program.lay(core, 0, instruction);
        core.run(1);
        return core.register(3);
    }

    private static void shifts() {
        Check.dueOctal("20 by 4", shifted("20304", HIGHEST | 5), 5 << 4 | 8);
        Check.dueOctal("20 by 0", shifted("20300", HIGHEST | 5), HIGHEST | 5);
        Check.dueOctal("20 by 59", shifted("20373", 3), HIGHEST | 1);
        Check.dueOctal("20 by 60", shifted("20374", HIGHEST | 5), HIGHEST | 5);
        Check.dueOctal("20 by 63", shifted("20377", HIGHEST | 5), 44);
        Check.dueOctal("21 by 1", shifted("21301", 7), 3);
        Check.dueOctal("21 by 0", shifted("21300", HIGHEST | 7), HIGHEST | 7);
        Check.dueOctal("21 by 1 of a number below 0", shifted("21301", HIGHEST), HIGHEST | 1L << 58);
        Check.dueOctal("21 by 59", shifted("21373", HIGHEST), MINUS_ZERO);
        Check.dueOctal("21 by 60", shifted("21374", HIGHEST), MINUS_ZERO);
        Check.dueOctal("21 by 63", shifted("21377", HIGHEST | 1), MINUS_ZERO);
        Check.dueOctal("21 by 63 of a number above 0", shifted("21377", HIGHEST - 1), 0);
    }

    private static long shiftedByB(String instruction, long number, long before) {
        ScoreboardCore core = new ScoreboardCore();
        core.put(B + 1, number);
        core.put(2, before);
        Program.lay(core, 0, instruction);
        core.run(1);
        return core.register(3);
    }

    private static void shiftsByB() {
        long minusFour = 4 ^ Program.SHORT_MINUS_ZERO;
        long word = HIGHEST | 0100;
        long left = 0100 << 4 | 8;
        long right = HIGHEST | HIGHEST >> 1 | HIGHEST >> 2 | HIGHEST >> 3 | HIGHEST >> 4 | 4;
        Check.dueOctal("22 by 4", shiftedByB("22312", 4, word), left);
        Check.dueOctal("22 by -4", shiftedByB("22312", minusFour, word), right);
        Check.dueOctal("23 by 4", shiftedByB("23312", 4, word), right);
        Check.dueOctal("23 by -4", shiftedByB("23312", minusFour, word), left);
        Check.dueOctal("22 by 0", shiftedByB("22312", 0, word), word);
        Check.dueOctal("22 by -0", shiftedByB("22312", Program.SHORT_MINUS_ZERO, word), word);
        Check.dueOctal("22 by 0104, whose lowest six bits are 4", shiftedByB("22312", 0104, word), left);
        Check.dueOctal("22 by -0104", shiftedByB("22312", minusFour ^ 0100, word), right);
        Check.dueOctal("22 by 63", shiftedByB("22312", 63, word), 0100 << 3 | 4);
        Check.dueOctal("23 by 63", shiftedByB("23312", 63, word), MINUS_ZERO);
        Check.dueOctal("23 by 60", shiftedByB("23312", 60, HIGHEST - 1), 0);
        Check.dueOctal("22 by B0", shiftedByB("22302", 9, word), word);
    }

    private static void masks() {
        Check.dueOctal("43 of 0", shifted("43300", 5), 0);
        Check.dueOctal("43 of 1", shifted("43301", 5), HIGHEST);
        Check.dueOctal("43 of 10", shifted("43312", 5), 01777L << 50);
        Check.dueOctal("43 of 59", shifted("43373", 5), MINUS_ZERO - 1);
        Check.dueOctal("43 of 60", shifted("43374", 5), MINUS_ZERO);
        Check.dueOctal("43 of 63", shifted("43377", 5), MINUS_ZERO);
    }

    private static void sums() {
        dueOfWords("36312", 5, 7, 12);
        dueOfWords("36312", 5, minus(7), minus(2));
        dueOfWords("36312", 7, minus(5), 2);
        dueOfWords("36312", 5, minus(5), 0);
        dueOfWords("36312", minus(5), minus(7), minus(12));
        dueOfWords("36312", 0, MINUS_ZERO, 0);
        dueOfWords("36312", MINUS_ZERO, 0, 0);
        dueOfWords("36312", MINUS_ZERO, MINUS_ZERO, MINUS_ZERO);
        dueOfWords("36312", MINUS_ZERO, 5, 5);
        dueOfWords("36312", HIGHEST - 1, 1, HIGHEST);
        dueOfWords("36312", HIGHEST, HIGHEST, 1);
        dueOfWords("37312", 12, 7, 5);
        dueOfWords("37312", 7, 12, minus(5));
        dueOfWords("37312", 7, 7, 0);
        dueOfWords("37312", MINUS_ZERO, 0, MINUS_ZERO);
        dueOfWords("37312", 0, 0, 0);
        dueOfWords("37312", MINUS_ZERO, MINUS_ZERO, 0);
    }

    private static void counts() {
        dueOfWords("47302", 0, 0, 0);
        dueOfWords("47302", 0, MINUS_ZERO, 60);
        dueOfWords("47302", 5, HIGHEST | 6, 3);
        ScoreboardCore core = new ScoreboardCore();
        core.put(3, 9);
        Program.lay(core, 0, "46333", "46777");
        Check.due("run(2) of 46", core.run(2), 2);
        Check.due("X3 behind 46", core.register(3), 9);
    }

    /** The eight forms, each into A0, B3 and X3. */
    private static void shortSums() {
        String[] tails = {"1000005", "1000005", "1000005", "12", "12", "12", "12", "12"};
        long[] wants = {105, 25, 305, 330, 130, 70, 50, 10 ^ Program.SHORT_MINUS_ZERO};
        for (int form = 0; form < 8; form++) {
            ScoreboardCore core = new ScoreboardCore();
            core.put(1, 1L << 18 | 300);
            core.put(A + 1, 100);
            core.put(B + 1, 20);
            core.put(B + 2, 30);
            Program.lay(core, 0, "5" + form + "0" + tails[form], "6" + form + "3" + tails[form],
                    "7" + form + "3" + tails[form]);
            core.run(30);
            long want = wants[form];
            Check.dueOctal("A0 of 5" + form, core.register(A), want);
            Check.dueOctal("B3 of 6" + form, core.register(B + 3), want);
            Check.dueOctal("X3 of 7" + form, core.register(3), form == 7 ? minus(10) : want);
        }
    }

    private static long shortSum(long b1, long b2, String op) {
        ScoreboardCore core = new ScoreboardCore();
        core.put(B + 1, b1);
        core.put(B + 2, b2);
        Program.lay(core, 0, op + "312");
        core.run(1);
        return core.register(B + 3);
    }

    private static void shortZeros() {
        long minusZero = Program.SHORT_MINUS_ZERO;
        Check.dueOctal("-0 + -0", shortSum(minusZero, minusZero, "66"), minusZero);
        Check.dueOctal("0 + -0", shortSum(0, minusZero, "66"), 0);
        Check.dueOctal("5 + -5", shortSum(5, 5 ^ minusZero, "66"), 0);
        Check.dueOctal("5 - 5", shortSum(5, 5, "67"), 0);
        Check.dueOctal("-0 - 0", shortSum(minusZero, 0, "67"), minusZero);
        Check.dueOctal("0 - 0", shortSum(0, 0, "67"), 0);
        Check.dueOctal("2^17 + 2^17", shortSum(1 << 17, 1 << 17, "66"), 1);
    }

    private static void extended() {
        ScoreboardCore core = Program.ran("7130777775", "7140377777", "7150400000", "7100777777");
        Check.dueOctal("X3, of -2", core.register(3), minus(2));
        Check.dueOctal("X4, the highest number", core.register(4), 0377777);
        Check.dueOctal("X5, the lowest one", core.register(5), minus(0377777));
        Check.dueOctal("X0, of 0 + -0", core.register(0), 0);
        ScoreboardCore second = new ScoreboardCore();
        second.put(A + 1, Program.SHORT_MINUS_ZERO);
        Program.lay(second, 0, "7031777777");
        second.run(1);
        Check.dueOctal("X3, of -0 + -0", second.register(3), MINUS_ZERO);
    }

    private static void b0StaysZero() {
        ScoreboardCore core = Program.ran("6100000005", "66101", "7120000003");
        Check.due("B0", core.register(B), 0);
        Check.due("B1 of B0 + B1", core.register(B + 1), 0);
        Check.due("X2 of B0 + 3", core.register(2), 3);
    }

    private static void loads() {
        ScoreboardCore core = new ScoreboardCore();
        for (int i = 0; i < 8; i++) {
            core.write(100 + i, 0770 + i);
        }
        Program.lay(core, 0, "5100000144", "5110000145", "5120000146", "5130000147", "5140000150", "5150000151");
        core.run(30);
        Check.due("X0 is not loaded", core.register(0), 0);
        for (int i = 1; i < 6; i++) {
            Check.due("A" + i, core.register(A + i), 100 + i);
            Check.dueOctal("X" + i, core.register(i), 0770 + i);
        }
        Check.due("A0", core.register(A), 100);
    }

    private static void stores() {
        ScoreboardCore core = new ScoreboardCore();
        core.put(6, MINUS_ZERO);
        core.put(7, 200);
        // A7 is reckoned from X7, which is stored, too.
        Program.lay(core, 0, "5160000310", "5277000001");
        core.run(30);
        Check.dueOctal("read(200)", core.read(200), MINUS_ZERO);
        Check.due("read(201)", core.read(201), 200);
        Check.due("A7", core.register(A + 7), 201);
        Check.due("X7", core.register(7), 200);
    }

    private static void outsideMemory() {
        ScoreboardCore core = new ScoreboardCore();
        core.write(511, 4);
        for (int i = 1; i < 8; i++) {
            core.put(i, 9);
        }
        core.put(B + 1, Program.SHORT_MINUS_ZERO);
        Program.lay(core, 10, "5110000777", "5120001000", "56311", "5160001000", "56711");
        core.start(10);
        core.run(5);
        Check.due("X1 of 511", core.register(1), 4);
        Check.due("X2 of 512", core.register(2), 0);
        Check.due("X3 of -0", core.register(3), 0);
        Check.dueOctal("A3", core.register(A + 3), Program.SHORT_MINUS_ZERO);
        Check.due("A6", core.register(A + 6), 512);
        Check.dueOctal("A7", core.register(A + 7), Program.SHORT_MINUS_ZERO);
        Check.due("read(0)", core.read(0), 0);
        Check.due("read(511)", core.read(511), 4);
        Check.due("stopped()", core.stopped(), 3);
    }

    private static int placeBehind(String jump, int k, long first, int l, long second) {
        ScoreboardCore core = new ScoreboardCore();
        core.put(k, first);
        core.put(l, second);
        Program.lay(core, 0, jump);
        core.run(1);
        return core.place();
    }

    private static void jumpsWithX() {
        long[] words = {0, MINUS_ZERO, 1, HIGHEST - 1, HIGHEST, MINUS_ZERO - 1};
        boolean[][] goes = {
            {true, true, false, false, false, false},
            {false, false, true, true, true, true},
            {true, false, true, true, false, false},
            {false, true, false, false, true, true}};
        for (int test = 0; test < 4; test++) {
            for (int n = 0; n < words.length; n++) {
                int place = placeBehind("03" + test + "5000020", 5, words[n], 5, words[n]);
                Check.due("03 with i " + test + " and word " + n, place, goes[test][n] ? 64 : 2);
            }
        }
    }

    private static void jumpsWithB() {
        long minusZero = Program.SHORT_MINUS_ZERO;
        long[][] pairs = {{5, 5}, {5, 6}, {6, 5}, {0, minusZero}, {minusZero, 0}, {5 ^ minusZero, 5},
            {5, 5 ^ minusZero}, {5 ^ minusZero, 6 ^ minusZero}, {6 ^ minusZero, 5 ^ minusZero}};
        int[] orders = {0, -1, 1, 0, 0, -1, 1, 1, -1};
        for (int n = 0; n < pairs.length; n++) {
            int order = orders[n];
            boolean[] goes = {order == 0, order != 0, order >= 0, order < 0};
            for (int op = 4; op < 8; op++) {
                int place = placeBehind("0" + op + "12000020", B + 1, pairs[n][0], B + 2, pairs[n][1]);
                Check.due("0" + op + " with pair " + n, place, goes[op - 4] ? 64 : 2);
            }
        }
    }

    private static void jump01() {
        ScoreboardCore core = new ScoreboardCore();
        Program.lay(core, 300, "46000", "0100000100");
        core.start(300);
        Check.due("run(2)", core.run(2), 2);
        Check.due("place() behind 01", core.place(), 4 * 65);
        Check.dueOctal("read(64)", core.read(64), 0400L << 48 | 301L << 30);
        core.start(64);
        core.run(1);
        Check.due("place() behind what 01 wrote", core.place(), 4 * 301);
        Program.lay(core, 511, "0100000005");
        core.start(511);
        core.run(1);
        Check.dueOctal("read(5), from word 511", core.read(5), 0400L << 48 | 512L << 30);
        Check.due("place()", core.place(), 24);
        Program.lay(core, 0, "0100001000");
        core.start(0);
        Check.due("run(1) of 01 at 512", core.run(1), 1);
        Check.due("place()", core.place(), 4 * 513);
        Check.due("stopped()", core.stopped(), 2);
    }

    private static void jump02() {
        Check.due("02 B1 + 16", placeBehind("0210000020", B + 1, 5, 1, 1), 4 * 21);
        Check.due("02 B1 - 1", placeBehind("0210777776", B + 1, 5, 1, 1), 4 * 4);
        Check.due("02 B0 + 16", placeBehind("0200000020", B + 1, 5, 1, 1), 4 * 16);
        Check.due("02 -0 + -0", placeBehind("0210777777", B + 1, -1, 1, 1), 4 * 262143);
        Check.due("02 0 + -0", placeBehind("0210777777", B + 1, 0, 1, 1), 0);
    }
}
