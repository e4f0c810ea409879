/** "Terms", the instructions: which of A0 to A7 read or write memory, and addresses at and behind its edges. */
public final class AddressesTest {
    private static final int A = Program.A;
    private static final int B = Program.B;
    private static final long[] OUTSIDE = {512, 513, 1023, 0377777, 0400000, 0777776, 0777777};
    private static final long[] INSIDE = {1, 2, 255, 256, 510, 511};

    public static void main(String[] args) {
        whichRegisters();
        loadsInside();
        loadsOutside();
        storesInside();
        storesOutside();
        storesWhatXWas();
        calls();
        callsOutside();
        Check.end();
    }

    /** A machine whose program lets Ai become B1 - B0: a difference, as a sum with 0 would make 0 of -0. */
    private static ScoreboardCore reaching(int i, long address) {
        ScoreboardCore core = Program.laid("57" + i + "10");
        core.put(B + 1, address);
        for (int k = 0; k < 8; k++) {
            core.put(k, 0770 + k);
        }
        return core;
    }

    private static void whichRegisters() {
        for (int i = 0; i < 8; i++) {
            ScoreboardCore core = reaching(i, 100);
            core.write(100, 0111);
            Check.due("run(1) with A" + i, core.run(1), 1);
            Check.due("A" + i, core.register(A + i), 100);
            boolean loads = i >= 1 && i <= 5;
            Check.dueOctal("X" + i + " behind A" + i, core.register(i), loads ? 0111 : 0770 + i);
            Check.dueOctal("read(100) behind A" + i, core.read(100), i >= 6 ? 0770 + i : 0111);
            for (int k = 0; k < 8; k++) {
                if (k != i) {
                    Check.dueOctal("X" + k + " behind A" + i, core.register(k), 0770 + k);
                }
            }
        }
    }

    private static void loadsInside() {
        for (int i = 1; i <= 5; i++) {
            for (long address : INSIDE) {
                ScoreboardCore core = reaching(i, address);
                core.write((int) address, -2);
                core.run(1);
                Check.dueOctal("X" + i + " of " + address, core.register(i), Program.MINUS_ZERO - 1);
            }
            ScoreboardCore core = reaching(i, 0);
            core.run(1);
            Check.dueOctal("X" + i + " of 0, the program itself", core.register(i), core.read(0));
        }
    }

    private static void loadsOutside() {
        for (int i = 1; i <= 5; i++) {
            for (long address : OUTSIDE) {
                ScoreboardCore core = reaching(i, address);
                writeWhereItWouldWrap(core, address);
                Check.due("run(1)", core.run(1), 1);
                Check.dueOctal("X" + i + " of " + address, core.register(i), 0);
                Check.dueOctal("A" + i, core.register(A + i), address);
                Check.due("stopped()", core.stopped(), 3);
            }
        }
    }

    /** Word 0 holds the program, and so is not 0 in any case. */
    private static void writeWhereItWouldWrap(ScoreboardCore core, long address) {
        int wrapped = (int) (address & 511);
        if (wrapped > 0) {
            core.write(wrapped, 6);
        }
    }

    private static void storesInside() {
        for (int i = 6; i <= 7; i++) {
            for (long address : INSIDE) {
                ScoreboardCore core = reaching(i, address);
                core.put(i, -2);
                core.run(1);
                Check.dueOctal("read(" + address + ") behind A" + i, core.read((int) address), Program.MINUS_ZERO - 1);
                Check.dueOctal("X" + i, core.register(i), Program.MINUS_ZERO - 1);
            }
            ScoreboardCore core = reaching(i, 0);
            core.run(1);
            Check.dueOctal("read(0) behind A" + i, core.read(0), 0770 + i);
        }
    }

    private static void storesOutside() {
        for (int i = 6; i <= 7; i++) {
            for (long address : OUTSIDE) {
                ScoreboardCore core = reaching(i, address);
                Check.due("run(1)", core.run(1), 1);
                Check.dueOctal("A" + i, core.register(A + i), address);
                Check.due("stopped()", core.stopped(), 3);
                dueNothingStored("A" + i + " = " + address, core);
            }
        }
    }

    private static void dueNothingStored(String what, ScoreboardCore core) {
        for (int address = 1; address < 480; address++) {
            Check.dueOctal(what + ": read(" + address + ")", core.read(address), 0);
        }
        Check.dueOctal(what + ": read(511)", core.read(511), 0);
        Check.dueOctal(what + ": read(510)", core.read(510), 0);
    }

    /** The address may come from the very X that is stored, or loaded. */
    private static void storesWhatXWas() {
        ScoreboardCore core = Program.laid("5277000001", "5222000001");
        core.put(7, 200);
        core.put(2, 200);
        core.run(2);
        Check.due("read(201)", core.read(201), 200);
        Check.due("A7", core.register(A + 7), 201);
        Check.due("X7", core.register(7), 200);
        Check.due("A2", core.register(A + 2), 201);
        Check.due("X2, loaded behind the store", core.register(2), 200);
    }

    private static long wayBackTo(int word) {
        return Long.parseLong("0400" + String.format("%06o", word) + "0000000000", 8);
    }

    private static void dueCall(int from, int constant, int stopped) {
        ScoreboardCore core = new ScoreboardCore();
        Program.lay(core, from, Program.withK("0177", constant));
        core.start(from);
        String what = "01 in word " + from + " with K " + constant + ": ";
        Check.due(what + "run(1)", core.run(1), 1);
        Check.due(what + "place()", core.place(), 4L * (constant + 1));
        Check.due(what + "stopped()", core.stopped(), stopped);
        if (constant < 512) {
            Check.dueOctal(what + "read", core.read(constant), wayBackTo(from + 1));
        } else {
            for (int address = from + 1; address < 500; address++) {
                Check.dueOctal(what + "read(" + address + ")", core.read(address), 0);
            }
        }
    }

    private static void calls() {
        dueCall(300, 64, 3);
        dueCall(0, 0, 3);
        dueCall(0, 1, 3);
        dueCall(5, 0, 3);
        dueCall(0, 510, 3);
        dueCall(0, 511, 2);
        dueCall(511, 5, 3);
        dueCall(511, 511, 2);
        dueCall(511, 510, 3);
        ScoreboardCore core = new ScoreboardCore();
        Program.lay(core, 511, "46000", "0100000005");
        Program.lay(core, 6, "0400000005");
        core.start(511);
        Check.due("run(9): 46, 01, the jump back, and what 01 wrote, to 512", core.run(9), 4);
        Check.due("stopped()", core.stopped(), 2);
        Check.due("place()", core.place(), 2048);
    }

    private static void callsOutside() {
        for (long address : OUTSIDE) {
            dueCall(40, (int) address, 2);
        }
    }
}
