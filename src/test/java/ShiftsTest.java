/** "Terms", the instructions: 20 to 23, 43 and 47, at the edges of what they shift by and count. */
public final class ShiftsTest {
    private static final long MINUS_ZERO = Program.MINUS_ZERO;
    private static final long HIGHEST = 1L << 59;
    private static final int[] COUNTS = {0, 1, 2, 30, 58, 59, 60, 61, 62, 63};

    public static void main(String[] args) {
        someByHand();
        byConstants();
        byB();
        sixBitsOfB();
        byB0();
        masks();
        bitsCounted();
        Check.end();
    }

    /** X3 is the operand of 20, 21, X2 that of 22, 23 and 47; B1 tells by how much. */
    private static long made(String instruction, long b1, long word) {
        ScoreboardCore core = Program.laid(instruction);
        core.put(Program.B + 1, b1);
        core.put(2, word);
        core.put(3, word);
        core.run(1);
        return core.register(3);
    }

    private static void dueMade(String instruction, long b1, long word, long want) {
        Check.dueOctal(instruction + " of " + Long.toOctalString(word) + " with B1 " + Long.toOctalString(b1),
                made(instruction, b1, word), want);
    }

    private static void someByHand() {
        dueMade("20304", 0, HIGHEST | 5, 5 << 4 | 8);
        dueMade("20373", 0, 3, HIGHEST | 1);
        dueMade("20374", 0, HIGHEST | 5, HIGHEST | 5);
        dueMade("20377", 0, HIGHEST | 5, 44);
        dueMade("21301", 0, 7, 3);
        dueMade("21301", 0, HIGHEST, HIGHEST | HIGHEST >> 1);
        dueMade("21373", 0, HIGHEST - 1, 0);
        dueMade("21372", 0, HIGHEST - 1, 1);
        dueMade("21372", 0, HIGHEST, MINUS_ZERO - 1);
        dueMade("21373", 0, HIGHEST, MINUS_ZERO);
        dueMade("21374", 0, HIGHEST, MINUS_ZERO);
        dueMade("21374", 0, HIGHEST - 1, 0);
    }

    /** Digit by digit: a text of 60 bits, turned round. */
    private static long turnedLeft(long word, int by) {
        String bits = bits(word);
        int places = by >= 60 ? by - 60 : by;
        return Long.parseLong(bits.substring(places) + bits.substring(0, places), 2);
    }

    private static long shiftedRight(long word, int by) {
        String bits = bits(word);
        String sign = bits.substring(0, 1);
        return Long.parseLong((sign.repeat(by) + bits).substring(0, 60), 2);
    }

    private static String bits(long word) {
        return Long.toBinaryString(word | 1L << 60).substring(1);
    }

    private static long[] words() {
        return new long[] {0, MINUS_ZERO, 1, HIGHEST, HIGHEST - 1, MINUS_ZERO - 1, HIGHEST | 0123456701234567L,
            0123456701234567L};
    }

    private static void byConstants() {
        for (long word : words()) {
            for (int by : COUNTS) {
                dueMade(String.format("203%02o", by), 0, word, turnedLeft(word, by));
                dueMade(String.format("213%02o", by), 0, word, shiftedRight(word, by));
            }
        }
    }

    private static void byB() {
        long minusZero = Program.SHORT_MINUS_ZERO;
        for (long word : words()) {
            for (int by : COUNTS) {
                dueMade("22312", by, word, turnedLeft(word, by));
                dueMade("22312", minusZero - by, word, shiftedRight(word, by));
                dueMade("23312", by, word, shiftedRight(word, by));
                dueMade("23312", minusZero - by, word, turnedLeft(word, by));
            }
        }
    }

    /** Only the lowest six bits tell by how much, and only the highest one which way. */
    private static void sixBitsOfB() {
        long word = HIGHEST | 0123456701234567L;
        long[] highs = {0100, 0200, 0100000, 0200000, 0377700};
        for (long high : highs) {
            for (int by : COUNTS) {
                dueMade("22312", high + by, word, turnedLeft(word, by));
                dueMade("22312", Program.SHORT_MINUS_ZERO - high - by, word, shiftedRight(word, by));
                dueMade("23312", high + by, word, shiftedRight(word, by));
                dueMade("23312", Program.SHORT_MINUS_ZERO - high - by, word, turnedLeft(word, by));
            }
        }
        dueMade("22312", 0377777, word, turnedLeft(word, 63));
        dueMade("22312", 0400000, word, shiftedRight(word, 63));
        dueMade("23312", 0377777, word, shiftedRight(word, 63));
        dueMade("23312", 0400000, word, turnedLeft(word, 63));
    }

    private static void byB0() {
        dueMade("22302", 9, HIGHEST | 5, HIGHEST | 5);
        dueMade("23302", 9, HIGHEST | 5, HIGHEST | 5);
    }

    private static void masks() {
        for (int count = 0; count < 64; count++) {
            int ones = Math.min(count, 60);
            long want = Long.parseLong("0" + "1".repeat(ones) + "0".repeat(60 - ones), 2);
            dueMade(String.format("433%02o", count), 0, 0123, want);
        }
    }

    private static void bitsCounted() {
        dueMade("47302", 0, 0, 0);
        dueMade("47302", 0, MINUS_ZERO, 60);
        dueMade("47302", 0, MINUS_ZERO - 1, 59);
        dueMade("47302", 0, HIGHEST | 6, 3);
        for (int bit = 0; bit < 60; bit++) {
            dueMade("47302", 0, 1L << bit, 1);
        }
    }
}
