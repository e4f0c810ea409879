import java.util.Arrays;

/**
 * A processor of 60-bit words whose units work at once.
 *
 * Every instruction waits only for instructions given out before it. So one pass in the program's
 * order is enough: it makes the results at once, and the board reckons the cycles beside it.
 */
public final class ScoreboardCore {
    private static final int WORDS = 512;
    private static final int MOST_INSTRUCTIONS = 2000;
    private static final int PARCELS = 4;

    private static final long WORD_MASK = (1L << 60) - 1;
    private static final int SHORT_MASK = (1 << 18) - 1;

    private static final int REGISTERS = 24;
    private static final int FIRST_A = 8;
    private static final int FIRST_B = 16;

    private static final int STOPPED_BY_PROGRAM = 0;
    private static final int STOPPED_BY_FAULT = 1;
    private static final int STOPPED_OUTSIDE = 2;
    private static final int NOT_STOPPED = 3;

    private static final int UNIT_LOGIC = 0;
    private static final int UNIT_SHIFT = 1;
    private static final int UNIT_SUM = 2;
    private static final int UNIT_COUNT = 3;
    private static final int UNIT_ADDRESS = 4;
    private static final int UNIT_ADDRESS_TWO = 5;
    private static final int UNITS = 6;
    private static final int NO_UNIT = -1;

    private final Memory memory;
    private final Registers registers;
    private final Board board;
    private final Instruction instruction;
    private int word;
    private int parcel;
    private int stop;

    public ScoreboardCore() {
        memory = new Memory();
        registers = new Registers();
        board = new Board();
        instruction = new Instruction();
        word = 0;
        parcel = 0;
        stop = NOT_STOPPED;
    }

    public long write(int address, long v) throws IndexOutOfBoundsException {
        if (!Memory.holds(address)) {
            throw new IndexOutOfBoundsException();
        }
        long before = memory.load(address);
        memory.store(address, v);
        return before;
    }

    public long read(int address) throws IndexOutOfBoundsException {
        if (!Memory.holds(address)) {
            throw new IndexOutOfBoundsException();
        }
        return memory.load(address);
    }

    public long register(int k) throws IndexOutOfBoundsException {
        if (k < 0 || k >= REGISTERS) {
            throw new IndexOutOfBoundsException();
        }
        return registers.get(k);
    }

    public void put(int k, long v) throws IndexOutOfBoundsException {
        if (k < 0 || k >= REGISTERS) {
            throw new IndexOutOfBoundsException();
        }
        registers.set(k, v);
    }

    public void start(int word) throws IllegalArgumentException {
        if (!Memory.holds(word)) {
            throw new IllegalArgumentException();
        }
        stop = NOT_STOPPED;
        goOnAt(word);
    }

    public int run(int n) throws IllegalArgumentException {
        if (n < 0 || n > MOST_INSTRUCTIONS) {
            throw new IllegalArgumentException();
        }
        memory.keepProgram();
        board.empty();
        int taken = 0;
        for (int turn = 0; turn < n && stop == NOT_STOPPED; turn++) {
            if (takeNext()) {
                taken++;
            }
        }
        board.countCycles();
        return taken;
    }

    public int stopped() {
        return stop;
    }

    public int place() {
        return PARCELS * word + parcel;
    }

    public long cycles() {
        return board.cyclesCounted();
    }

    public int done(int unit) throws IllegalArgumentException {
        if (unit < 0 || unit >= Board.DONE_KINDS) {
            throw new IllegalArgumentException();
        }
        return board.doneBy(unit);
    }

    public long waited(int what) throws IllegalArgumentException {
        if (what < 0 || what >= Board.WAIT_KINDS) {
            throw new IllegalArgumentException();
        }
        return board.waitedFor(what);
    }

    /** Says whether there was an instruction to take, and not a stop. */
    private boolean takeNext() {
        instruction.decode(memory.programWord(word), parcel);
        stop = instruction.stopCode();
        if (stop != NOT_STOPPED) {
            return false;
        }
        if (instruction.isJump()) {
            takeJump();
        } else {
            board.giveOut(instruction);
            Work.apply(instruction, registers, memory);
            goOnBehind();
        }
        return true;
    }

    private void takeJump() {
        boolean elsewhere = Jumps.goesElsewhere(instruction, registers);
        board.doJump(instruction, elsewhere);
        if (!elsewhere) {
            goOnBehind();
            return;
        }
        int target = Jumps.target(instruction, registers);
        if (instruction.op() == 001) {
            memory.storeInProgram(instruction.constant(), Jumps.wayBack(word));
        }
        goOnAt(target);
    }

    private void goOnBehind() {
        int behind = parcel + instruction.parcels();
        if (behind < PARCELS) {
            parcel = behind;
        } else {
            goOnAt(word + 1);
        }
    }

    private void goOnAt(int target) {
        word = target;
        parcel = 0;
        if (!Memory.holds(target)) {
            stop = STOPPED_OUTSIDE;
        }
    }

    /** Numbers whose negative ones are the turned ones; a mask of all bits tells their length. */
    private static final class Ones {
        private static final int WORD_BITS = 60;

        static long sum(long a, long b, long mask) {
            long sum = a + b;
            if (sum > mask) {
                sum = (sum & mask) + 1;
            }
            boolean bothMinusZero = a == mask && b == mask;
            return sum == mask && !bothMinusZero ? 0 : sum;
        }

        static long difference(long a, long b, long mask) {
            return sum(a, b ^ mask, mask);
        }

        static boolean isNegative(long word) {
            return (word >> (WORD_BITS - 1) & 1) != 0;
        }

        static boolean isShortNegative(long number) {
            return number > SHORT_MASK >> 1;
        }

        static boolean isZero(long word) {
            return word == 0 || word == WORD_MASK;
        }

        static long extended(long number) {
            return isShortNegative(number) ? number | (WORD_MASK ^ SHORT_MASK) : number;
        }

        /** Java's own number for a short one, so that both zeros are alike. */
        static long plain(long number) {
            return isShortNegative(number) ? -(number ^ SHORT_MASK) : number;
        }

        static long turnedRoundLeft(long word, int by) {
            int places = by % WORD_BITS;
            return (word << places | word >>> (WORD_BITS - places)) & WORD_MASK;
        }

        static long shiftedRight(long word, int by) {
            long signed = isNegative(word) ? word | ~WORD_MASK : word;
            return signed >> Math.min(by, WORD_BITS) & WORD_MASK;
        }

        static long highestBits(int count) {
            return WORD_MASK ^ (WORD_MASK >> Math.min(count, WORD_BITS));
        }
    }

    /** X0 to X7, A0 to A7, B0 to B7 in one row, in this order. */
    private static final class Registers {
        private final long[] values = new long[REGISTERS];

        long get(int k) {
            return values[k];
        }

        void set(int k, long v) {
            if (k != FIRST_B) {
                values[k] = v & (k < FIRST_A ? WORD_MASK : SHORT_MASK);
            }
        }

        long x(int i) {
            return values[i];
        }

        long a(int i) {
            return values[FIRST_A + i];
        }

        long b(int i) {
            return values[FIRST_B + i];
        }
    }

    /** The words, and beside them the program as the running run() sees it. */
    private static final class Memory {
        private final long[] words = new long[WORDS];
        private final long[] program = new long[WORDS];

        static boolean holds(int address) {
            return address >= 0 && address < WORDS;
        }

        long load(int address) {
            return holds(address) ? words[address] : 0;
        }

        void store(int address, long v) {
            if (holds(address)) {
                words[address] = v & WORD_MASK;
            }
        }

        void keepProgram() {
            System.arraycopy(words, 0, program, 0, WORDS);
        }

        long programWord(int address) {
            return holds(address) ? program[address] : 0;
        }

        void storeInProgram(int address, long v) {
            store(address, v);
            if (holds(address)) {
                program[address] = v & WORD_MASK;
            }
        }
    }

    /** A few registers by their numbers, up to the three that an instruction can need. */
    private static final class RegisterList {
        private static final int MOST = 3;

        private final int[] numbers = new int[MOST];
        private int size;

        void clear() {
            size = 0;
        }

        /** B0 is left out: nothing ever waits for it, nor does it change. */
        void add(int k) {
            if (k != FIRST_B && size < MOST) {
                numbers[size] = k;
                size++;
            }
        }

        void addX(int i) {
            add(i);
        }

        void addA(int i) {
            add(FIRST_A + i);
        }

        void addB(int i) {
            add(FIRST_B + i);
        }

        int latestIn(int[] cycleOfRegister) {
            int latest = 0;
            for (int n = 0; n < size; n++) {
                latest = Math.max(latest, cycleOfRegister[numbers[n]]);
            }
            return latest;
        }

        void raiseIn(int[] cycleOfRegister, int cycle) {
            for (int n = 0; n < size; n++) {
                int k = numbers[n];
                cycleOfRegister[k] = Math.max(cycleOfRegister[k], cycle);
            }
        }
    }

    /** One instruction taken apart; the object serves again for the next one. */
    private static final class Instruction {
        private static final int PARCEL_BITS = 15;
        private static final int PARCEL_MASK = (1 << PARCEL_BITS) - 1;
        private static final int OP_LAST_JUMP = 007;
        private static final int OP_NOTHING = 046;
        private static final int OP_FIRST_ADDRESS = 050;

        private int op;
        private int i;
        private int j;
        private int k;
        private int constant;
        private int parcelsLeft;
        private int unit;
        private final RegisterList needs = new RegisterList();
        private final RegisterList results = new RegisterList();

        void decode(long word, int parcel) {
            parcelsLeft = PARCELS - parcel;
            int first = (int) (word >> PARCEL_BITS * (parcelsLeft - 1)) & PARCEL_MASK;
            op = first >> 9;
            i = first >> 6 & 7;
            j = first >> 3 & 7;
            k = first & 7;
            constant = parcelsLeft < 2 ? 0 : (int) (word >> PARCEL_BITS * (parcelsLeft - 2)) & SHORT_MASK;
            unit = unitOf(op);
            needs.clear();
            results.clear();
            listNeeds();
            listResults();
        }

        int op() {
            return op;
        }

        int i() {
            return i;
        }

        int j() {
            return j;
        }

        int k() {
            return k;
        }

        int jk() {
            return j << 3 | k;
        }

        int constant() {
            return constant;
        }

        int unit() {
            return unit;
        }

        RegisterList needs() {
            return needs;
        }

        RegisterList results() {
            return results;
        }

        int parcels() {
            boolean hasConstant = isJump() || op >= OP_FIRST_ADDRESS && (op & 7) <= 2;
            return hasConstant ? 2 : 1;
        }

        boolean isJump() {
            return op > 0 && op <= OP_LAST_JUMP;
        }

        boolean loads() {
            return op >> 3 == 5 && i >= 1 && i <= 5;
        }

        boolean stores() {
            return op >> 3 == 5 && i >= 6;
        }

        int stopCode() {
            if (op == 0) {
                return STOPPED_BY_PROGRAM;
            }
            boolean known = isJump() || unit != NO_UNIT || op == OP_NOTHING;
            boolean wrongTest = op == 003 && i > 3;
            return known && !wrongTest && parcels() <= parcelsLeft ? NOT_STOPPED : STOPPED_BY_FAULT;
        }

        private static int unitOf(int op) {
            if (op >= OP_FIRST_ADDRESS) {
                return UNIT_ADDRESS;
            }
            if (op >= 010 && op <= 017) {
                return UNIT_LOGIC;
            }
            if (op >= 020 && op <= 023 || op == 043) {
                return UNIT_SHIFT;
            }
            if (op == 036 || op == 037) {
                return UNIT_SUM;
            }
            return op == 047 ? UNIT_COUNT : NO_UNIT;
        }

        private void listNeeds() {
            switch (unit) {
                case UNIT_LOGIC:
                    listLogicNeeds();
                    break;
                case UNIT_SHIFT:
                    listShiftNeeds();
                    break;
                case UNIT_SUM:
                    needs.addX(j);
                    needs.addX(k);
                    break;
                case UNIT_COUNT:
                    needs.addX(k);
                    break;
                case UNIT_ADDRESS:
                    listAddressNeeds();
                    break;
                default:
                    listJumpNeeds();
                    break;
            }
        }

        private void listLogicNeeds() {
            if (op != 014) {
                needs.addX(j);
            }
            if (op != 010) {
                needs.addX(k);
            }
        }

        private void listShiftNeeds() {
            if (op == 020 || op == 021) {
                needs.addX(i);
            } else if (op == 022 || op == 023) {
                needs.addB(j);
                needs.addX(k);
            }
        }

        private void listAddressNeeds() {
            switch (op & 7) {
                case 0:
                case 4:
                case 5:
                    needs.addA(j);
                    break;
                case 2:
                case 3:
                    needs.addX(j);
                    break;
                default:
                    needs.addB(j);
                    break;
            }
            if (parcels() == 1) {
                needs.addB(k);
            }
            if (stores()) {
                needs.addX(i);
            }
        }

        private void listJumpNeeds() {
            if (op == 003) {
                needs.addX(j);
            } else if (op == 002) {
                needs.addB(i);
            } else if (op >= 004 && op <= OP_LAST_JUMP) {
                needs.addB(i);
                needs.addB(j);
            }
        }

        private void listResults() {
            if (unit == NO_UNIT) {
                return;
            }
            switch (op >> 3) {
                case 5:
                    results.addA(i);
                    if (loads()) {
                        results.addX(i);
                    }
                    break;
                case 6:
                    results.addB(i);
                    break;
                default:
                    results.addX(i);
                    break;
            }
        }
    }

    /** What the jumps ask, and where they lead. */
    private static final class Jumps {
        static boolean goesElsewhere(Instruction one, Registers registers) {
            if (one.op() == 001 || one.op() == 002) {
                return true;
            }
            return one.op() == 003
                    ? wordHolds(one.i(), registers.x(one.j()))
                    : shortsHold(one.op(), registers.b(one.i()), registers.b(one.j()));
        }

        static int target(Instruction one, Registers registers) {
            switch (one.op()) {
                case 001:
                    return one.constant() + 1;
                case 002:
                    return (int) Ones.sum(registers.b(one.i()), one.constant(), SHORT_MASK);
                default:
                    return one.constant();
            }
        }

        /** A jump of its own, that 01 leaves behind: on at the word after that of the 01. */
        static long wayBack(int word) {
            return 0400L << 48 | (long) (word + 1) << 30;
        }

        private static boolean wordHolds(int test, long word) {
            switch (test) {
                case 0:
                    return Ones.isZero(word);
                case 1:
                    return !Ones.isZero(word);
                case 2:
                    return !Ones.isNegative(word);
                default:
                    return Ones.isNegative(word);
            }
        }

        private static boolean shortsHold(int op, long first, long second) {
            int order = Long.compare(Ones.plain(first), Ones.plain(second));
            switch (op) {
                case 004:
                    return order == 0;
                case 005:
                    return order != 0;
                case 006:
                    return order >= 0;
                default:
                    return order < 0;
            }
        }
    }

    /** What the units make of registers and memory. */
    private static final class Work {
        static void apply(Instruction one, Registers registers, Memory memory) {
            switch (one.unit()) {
                case UNIT_LOGIC:
                    registers.set(one.i(), logic(one.op(), registers.x(one.j()), registers.x(one.k())));
                    break;
                case UNIT_SHIFT:
                    registers.set(one.i(), shift(one, registers));
                    break;
                case UNIT_SUM:
                    registers.set(one.i(), wordSum(one.op(), registers.x(one.j()), registers.x(one.k())));
                    break;
                case UNIT_COUNT:
                    registers.set(one.i(), Long.bitCount(registers.x(one.k())));
                    break;
                case UNIT_ADDRESS:
                    applyAddress(one, registers, memory);
                    break;
                default:
                    break;
            }
        }

        private static long logic(int op, long first, long second) {
            switch (op) {
                case 010:
                    return first;
                case 011:
                    return first & second;
                case 012:
                    return first | second;
                case 013:
                    return first ^ second;
                case 014:
                    return ~second;
                case 015:
                    return first & ~second;
                case 016:
                    return first | ~second;
                default:
                    return first ^ ~second;
            }
        }

        private static long shift(Instruction one, Registers registers) {
            switch (one.op()) {
                case 020:
                    return Ones.turnedRoundLeft(registers.x(one.i()), one.jk());
                case 021:
                    return Ones.shiftedRight(registers.x(one.i()), one.jk());
                case 022:
                    return shiftBy(registers.x(one.k()), registers.b(one.j()), true);
                case 023:
                    return shiftBy(registers.x(one.k()), registers.b(one.j()), false);
                default:
                    return Ones.highestBits(one.jk());
            }
        }

        private static long shiftBy(long word, long number, boolean leftIfPositive) {
            boolean negative = Ones.isShortNegative(number);
            int by = (int) (negative ? ~number : number) & 077;
            return leftIfPositive != negative ? Ones.turnedRoundLeft(word, by) : Ones.shiftedRight(word, by);
        }

        private static long wordSum(int op, long first, long second) {
            return op == 036 ? Ones.sum(first, second, WORD_MASK) : Ones.difference(first, second, WORD_MASK);
        }

        private static void applyAddress(Instruction one, Registers registers, Memory memory) {
            long number = shortSum(one, registers);
            int i = one.i();
            switch (one.op() >> 3) {
                case 5:
                    registers.set(FIRST_A + i, number);
                    reachMemory(one, (int) number, registers, memory);
                    break;
                case 6:
                    registers.set(FIRST_B + i, number);
                    break;
                default:
                    registers.set(i, Ones.extended(number));
                    break;
            }
        }

        private static void reachMemory(Instruction one, int address, Registers registers, Memory memory) {
            if (one.loads()) {
                registers.set(one.i(), memory.load(address));
            } else if (one.stores()) {
                memory.store(address, registers.x(one.i()));
            }
        }

        private static long shortSum(Instruction one, Registers registers) {
            long aj = registers.a(one.j());
            long bj = registers.b(one.j());
            long xj = registers.x(one.j()) & SHORT_MASK;
            long bk = registers.b(one.k());
            switch (one.op() & 7) {
                case 0:
                    return Ones.sum(aj, one.constant(), SHORT_MASK);
                case 1:
                    return Ones.sum(bj, one.constant(), SHORT_MASK);
                case 2:
                    return Ones.sum(xj, one.constant(), SHORT_MASK);
                case 3:
                    return Ones.sum(xj, bk, SHORT_MASK);
                case 4:
                    return Ones.sum(aj, bk, SHORT_MASK);
                case 5:
                    return Ones.difference(aj, bk, SHORT_MASK);
                case 6:
                    return Ones.sum(bj, bk, SHORT_MASK);
                default:
                    return Ones.difference(bj, bk, SHORT_MASK);
            }
        }
    }

    /** Reckons the cycles: every instruction's depend only on those of the ones before it. */
    private static final class Board {
        static final int DONE_KINDS = 8;
        static final int WAIT_KINDS = 5;

        private static final int DONE_JUMPS = 6;
        private static final int DONE_ELSEWHERE = 7;
        private static final int WAIT_UNIT = 0;
        private static final int WAIT_RESULT = 1;
        private static final int WAIT_JUMP = 2;
        private static final int WAIT_READ = 3;
        private static final int WAIT_END = 4;

        private static final int CYCLES_ELSEWHERE = 8;
        private static final int CYCLES_IN_LINE = 4;
        private static final int CYCLES_LOAD = 5;
        private static final int[] UNIT_CYCLES = {3, 3, 3, 8, 3, 3};

        private final int[] doneCounts = new int[DONE_KINDS];
        private final long[] waitCounts = new long[WAIT_KINDS];
        private long counted;

        private final int[] unitFreeFrom = new int[UNITS];
        private final int[] registerFreeFrom = new int[REGISTERS];
        private final int[] registerLastRead = new int[REGISTERS];
        private int memoryLastEnd;
        private int earliest;
        private int last;

        int doneBy(int kind) {
            return doneCounts[kind];
        }

        long waitedFor(int kind) {
            return waitCounts[kind];
        }

        long cyclesCounted() {
            return counted;
        }

        void empty() {
            Arrays.fill(unitFreeFrom, 0);
            Arrays.fill(registerFreeFrom, 0);
            Arrays.fill(registerLastRead, 0);
            memoryLastEnd = 0;
            earliest = 1;
            last = 0;
        }

        void countCycles() {
            counted += last;
        }

        void giveOut(Instruction one) {
            int given = earliest;
            if (one.unit() != NO_UNIT) {
                given = givenOutAt(one);
                occupyUnit(one, given);
            }
            reach(given);
            earliest = given + one.parcels();
        }

        void doJump(Instruction one, boolean elsewhere) {
            int free = one.needs().latestIn(registerFreeFrom);
            if (one.op() == 001) {
                free = memoryLastEnd + 1;
            }
            int doneAt = waitFor(earliest, free, WAIT_JUMP);
            reach(doneAt);
            doneCounts[DONE_JUMPS]++;
            if (elsewhere) {
                doneCounts[DONE_ELSEWHERE]++;
            }
            earliest = doneAt + (elsewhere ? CYCLES_ELSEWHERE : CYCLES_IN_LINE);
        }

        private int givenOutAt(Instruction one) {
            int unit = one.unit();
            int unitFree = unitFreeFrom[unit];
            if (unit == UNIT_ADDRESS) {
                unitFree = Math.min(unitFree, unitFreeFrom[UNIT_ADDRESS_TWO]);
            }
            int withUnit = waitFor(earliest, unitFree, WAIT_UNIT);
            return waitFor(withUnit, one.results().latestIn(registerFreeFrom), WAIT_RESULT);
        }

        private void occupyUnit(Instruction one, int given) {
            int unit = unitFreeAt(one.unit(), given);
            int readAt = waitFor(given + 1, one.needs().latestIn(registerFreeFrom), WAIT_READ);
            int end = endsAt(one, readAt + UNIT_CYCLES[unit]);
            one.needs().raiseIn(registerLastRead, readAt);
            one.results().raiseIn(registerFreeFrom, end + 1);
            unitFreeFrom[unit] = end + 1;
            doneCounts[unit]++;
            reach(end);
            if (one.loads() || one.stores()) {
                memoryLastEnd = end;
            }
            if (one.loads()) {
                registerFreeFrom[one.i()] = end + CYCLES_LOAD + 1;
                reach(end + CYCLES_LOAD);
            }
        }

        private int unitFreeAt(int unit, int cycle) {
            boolean second = unit == UNIT_ADDRESS && unitFreeFrom[UNIT_ADDRESS] > cycle;
            return second ? UNIT_ADDRESS_TWO : unit;
        }

        private int endsAt(Instruction one, int due) {
            int free = one.results().latestIn(registerLastRead) + 1;
            if (one.loads() || one.stores()) {
                free = Math.max(free, memoryLastEnd + 1);
            }
            return waitFor(due, free, WAIT_END);
        }

        /** The first cycle from the wanted one on that is not before the free one. */
        private int waitFor(int wanted, int free, int kind) {
            int cycle = Math.max(wanted, free);
            waitCounts[kind] += cycle - wanted;
            return cycle;
        }

        private void reach(int cycle) {
            last = Math.max(last, cycle);
        }
    }
}
