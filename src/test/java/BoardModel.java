import java.util.ArrayList;
import java.util.List;

/**
 * A second machine for comparing: it steps through the cycles one by one, and values move only when an instruction
 * reads, ends, or its loaded word comes there. So it shows, too, that the board's order keeps results as they are
 * one after the other.
 */
final class BoardModel {
    private static final long WORD = (1L << 60) - 1;
    private static final long SHORT = (1L << 18) - 1;
    private static final int NEVER = Integer.MAX_VALUE;

    /** An instruction on the board. */
    private static final class Entry {
        int op;
        int i;
        int j;
        int k;
        int constant;
        int unit;
        int duration;
        int given;
        int readAt = NEVER;
        int end = NEVER;
        long needs;
        long results;
        boolean memory;
        long address;
        long value;

        boolean loads() {
            return memory && i <= 5;
        }

        boolean reserves(int register, int cycle) {
            if ((results >> register & 1) == 0) {
                return false;
            }
            int last = end == NEVER ? NEVER : loads() && register < 8 ? end + 5 : end;
            return cycle <= last;
        }
    }

    final long[] registers = new long[24];
    final long[] memory = new long[512];
    final long[] waits = new long[5];
    final int[] dones = new int[8];
    long cycles;
    int word;
    int parcel;
    int stop = 3;

    private long[] program;
    private final List<Entry> board = new ArrayList<>();
    private int cycle;
    private int earliest;
    private int last;

    int run(int n) {
        program = memory.clone();
        board.clear();
        earliest = 1;
        last = 0;
        int taken = 0;
        for (cycle = 1; taken < n && stop == 3 || !settled(); cycle++) {
            if (taken < n && stop == 3 && cycle >= earliest && tryNext()) {
                taken++;
            }
            for (Entry e : board) {
                tryRead(e);
            }
            for (Entry e : board) {
                tryEnd(e);
            }
            for (Entry e : board) {
                arrive(e);
            }
        }
        cycles += last;
        return taken;
    }

    private boolean settled() {
        for (Entry e : board) {
            if (e.end == NEVER || e.loads() && cycle <= e.end + 5) {
                return false;
            }
        }
        return true;
    }

    private boolean reserved(long set, int before) {
        for (int n = 0; n < before; n++) {
            for (int r = 0; r < 24; r++) {
                if ((set >> r & 1) != 0 && board.get(n).reserves(r, cycle)) {
                    return true;
                }
            }
        }
        return false;
    }

    private static long bit(int register) {
        return register == 16 ? 0 : 1L << register;
    }

    private boolean tryNext() {
        int left = 4 - parcel;
        int bits = (int) (program[word] >> 15 * (left - 1)) & 077777;
        Entry e = new Entry();
        e.op = bits >> 9;
        e.i = bits >> 6 & 7;
        e.j = bits >> 3 & 7;
        e.k = bits & 7;
        boolean two = e.op >= 1 && e.op <= 7 || e.op >= 050 && (e.op & 7) < 3;
        if (e.op == 0) {
            stop = 0;
            return false;
        }
        boolean known = "01 02 03 04 05 06 07 10 11 12 13 14 15 16 17 20 21 22 23 36 37 43 46 47"
                .contains(String.format("%02o", e.op)) || e.op >= 050;
        if (!known || two && left == 1 || e.op == 3 && e.i > 3) {
            stop = 1;
            return false;
        }
        if (two) {
            e.constant = (bits & 7) << 15 | (int) (program[word] >> 15 * (left - 2)) & 077777;
        }
        if (e.op <= 7) {
            return tryJump(e);
        }
        if (e.op != 046 && !tryGiveOut(e)) {
            return false;
        }
        last = Math.max(last, cycle);
        earliest = cycle + (two ? 2 : 1);
        goBehind(two ? 2 : 1);
        return true;
    }

    private boolean tryGiveOut(Entry e) {
        describe(e);
        boolean free = unitFree(e.unit);
        if (!free && e.unit == 4) {
            e.unit = 5;
            free = unitFree(5);
        }
        if (!free) {
            waits[0]++;
            return false;
        }
        if (reserved(e.results, board.size())) {
            waits[1]++;
            return false;
        }
        e.given = cycle;
        dones[e.unit]++;
        board.add(e);
        return true;
    }

    private boolean unitFree(int unit) {
        for (Entry e : board) {
            if (e.unit == unit && e.end >= cycle) {
                return false;
            }
        }
        return true;
    }

    private void describe(Entry e) {
        long xi = bit(e.i);
        long xj = bit(e.j);
        long xk = bit(e.k);
        long aj = bit(8 + e.j);
        long bj = bit(16 + e.j);
        long bk = bit(16 + e.k);
        e.duration = e.op == 047 ? 8 : 3;
        e.results = xi;
        if (e.op < 020) {
            e.unit = 0;
            e.needs = e.op == 010 ? xj : e.op == 014 ? xk : xj | xk;
        } else if (e.op < 024 || e.op == 043) {
            e.unit = 1;
            e.needs = e.op < 022 ? xi : e.op < 024 ? bj | xk : 0;
        } else if (e.op < 040) {
            e.unit = 2;
            e.needs = xj | xk;
        } else if (e.op == 047) {
            e.unit = 3;
            e.needs = xk;
        } else {
            e.unit = 4;
            long[] forms = {aj, bj, xj, xj | bk, aj | bk, aj | bk, bj | bk, bj | bk};
            e.needs = forms[e.op & 7];
            if (e.op < 060) {
                e.memory = e.i > 0;
                e.results = bit(8 + e.i) | (e.loads() ? xi : 0);
                e.needs |= e.i > 5 ? xi : 0;
            } else if (e.op < 070) {
                e.results = bit(16 + e.i);
            }
        }
    }

    private boolean tryJump(Entry e) {
        long bi = registers[16 + e.i];
        long bj = registers[16 + e.j];
        long xj = registers[e.j];
        boolean waiting = false;
        if (e.op == 1) {
            for (Entry o : board) {
                waiting |= o.memory && o.end >= cycle;
            }
        } else {
            long needs = e.op == 2 ? bit(16 + e.i) : e.op == 3 ? bit(e.j) : bit(16 + e.i) | bit(16 + e.j);
            waiting = reserved(needs, board.size());
        }
        if (waiting) {
            waits[2]++;
            return false;
        }
        boolean zero = xj == 0 || xj == WORD;
        boolean below = xj > WORD / 2;
        boolean goes = switch (e.op) {
            case 1, 2 -> true;
            case 3 -> e.i == 0 ? zero : e.i == 1 ? !zero : e.i == 2 ? !below : below;
            case 4 -> signed(bi) == signed(bj);
            case 5 -> signed(bi) != signed(bj);
            case 6 -> signed(bi) >= signed(bj);
            default -> signed(bi) < signed(bj);
        };
        last = Math.max(last, cycle);
        earliest = cycle + (goes ? 8 : 4);
        dones[6]++;
        if (!goes) {
            goBehind(2);
            return true;
        }
        dones[7]++;
        if (e.op == 1 && e.constant < 512) {
            memory[e.constant] = Long.parseLong(String.format("0400%06o0000000000", word + 1), 8);
            program[e.constant] = memory[e.constant];
        }
        goTo(e.op == 1 ? e.constant + 1 : e.op == 2 ? (int) sum(bi, e.constant, SHORT) : e.constant);
        return true;
    }

    private static long signed(long number) {
        return number > SHORT / 2 ? number - SHORT : number;
    }

    private void goBehind(int parcels) {
        parcel += parcels;
        if (parcel == 4) {
            goTo(word + 1);
        }
    }

    private void goTo(int target) {
        word = target;
        parcel = 0;
        if (target > 511) {
            stop = 2;
        }
    }

    private void tryRead(Entry e) {
        if (e.readAt != NEVER || cycle <= e.given) {
            return;
        }
        if (reserved(e.needs, board.indexOf(e))) {
            waits[3]++;
            return;
        }
        e.readAt = cycle;
        e.value = value(e);
        if (e.op >= 050) {
            e.address = e.value;
            if (e.memory && e.i > 5) {
                e.value = registers[e.i];
            }
        }
    }

    private void tryEnd(Entry e) {
        if (e.readAt == NEVER || e.end != NEVER || cycle < e.readAt + e.duration) {
            return;
        }
        for (int n = 0; n < board.indexOf(e); n++) {
            Entry o = board.get(n);
            boolean unread = (o.needs & e.results) != 0 && o.readAt >= cycle;
            if (unread || e.memory && o.memory && o.end >= cycle) {
                waits[4]++;
                return;
            }
        }
        e.end = cycle;
        last = Math.max(last, cycle);
        if (e.op >= 050 && e.op < 060) {
            registers[8 + e.i] = e.address;
            if (e.loads()) {
                e.value = e.address < 512 ? memory[(int) e.address] : 0;
            } else if (e.memory && e.address < 512) {
                memory[(int) e.address] = e.value;
            }
        } else if (e.op >= 060 && e.op < 070) {
            registers[16 + e.i] = e.i == 0 ? 0 : e.address;
        } else if (e.op >= 070) {
            registers[e.i] = e.address > SHORT / 2 ? e.address + (WORD - SHORT) : e.address;
        } else {
            registers[e.i] = e.value;
        }
    }

    private void arrive(Entry e) {
        if (e.loads() && e.end != NEVER && cycle == e.end + 5) {
            registers[e.i] = e.value;
            last = Math.max(last, cycle);
        }
    }

    /** Rounds beyond the mask are a remainder; only two -0 keep their kind of zero. */
    private static long sum(long a, long b, long mask) {
        return a == mask && b == mask ? mask : (a + b) % mask;
    }

    private static long left(long word, long by) {
        long turned = word;
        for (long n = 0; n < by; n++) {
            turned = turned * 2 % (WORD + 1) + (turned > WORD / 2 ? 1 : 0);
        }
        return turned;
    }

    private static long right(long word, long by) {
        long shifted = word;
        for (long n = 0; n < by; n++) {
            shifted = shifted / 2 + (word > WORD / 2 ? (WORD + 1) / 2 : 0);
        }
        return shifted;
    }

    private long value(Entry e) {
        long xi = registers[e.i];
        long xj = registers[e.j];
        long xk = registers[e.k];
        long bj = registers[16 + e.j];
        long jk = e.j * 8 + e.k;
        boolean below = bj > SHORT / 2;
        long by = (below ? SHORT - bj : bj) % 64;
        return switch (e.op) {
            case 010 -> xj;
            case 011 -> xj & xk;
            case 012 -> xj | xk;
            case 013 -> xj ^ xk;
            case 014 -> WORD - xk;
            case 015 -> xj & (WORD - xk);
            case 016 -> xj | (WORD - xk);
            case 017 -> xj ^ (WORD - xk);
            case 020 -> left(xi, jk);
            case 021 -> right(xi, jk);
            case 022 -> below ? right(xk, by) : left(xk, by);
            case 023 -> below ? left(xk, by) : right(xk, by);
            case 043 -> right(jk == 0 ? 0 : (WORD + 1) / 2, Math.max(jk - 1, 0));
            case 036 -> sum(xj, xk, WORD);
            case 037 -> sum(xj, WORD - xk, WORD);
            case 047 -> Long.toBinaryString(xk).replace("0", "").length();
            default -> shortSum(e, xj % (SHORT + 1), bj);
        };
    }

    private long shortSum(Entry e, long xj, long bj) {
        long aj = registers[8 + e.j];
        long bk = registers[16 + e.k];
        return switch (e.op % 8) {
            case 0 -> sum(aj, e.constant, SHORT);
            case 1 -> sum(bj, e.constant, SHORT);
            case 2 -> sum(xj, e.constant, SHORT);
            case 3 -> sum(xj, bk, SHORT);
            case 4 -> sum(aj, bk, SHORT);
            case 5 -> sum(aj, SHORT - bk, SHORT);
            case 6 -> sum(bj, bk, SHORT);
            default -> sum(bj, SHORT - bk, SHORT);
        };
    }
}
