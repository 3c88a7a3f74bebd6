import java.util.Arrays;

/** A computer of 32 bits whose stored bits may flip; the document's promises are told in DOC.md. */
public final class VotedCore {
    public static final int BAD = -1;
    public static final long BROKEN = -2L;

    private static final int WORDS = 64;
    private static final int WORD_BITS = 39;
    private static final int REGISTERS = 32;
    private static final int COPIES = 3;
    private static final int REGISTER_BITS = 32;
    private static final int LINES = 4;
    private static final int LINE_BITS = 38;

    private static final int FIRST_COPY_PART = WORDS;
    private static final int FIRST_CODE_PART = FIRST_COPY_PART + COPIES * REGISTERS;
    private static final int FIRST_DATA_PART = FIRST_CODE_PART + LINES;
    private static final int PARTS = FIRST_DATA_PART + LINES;

    private static final int MOST_EVERY = 64;
    private static final int MOST_CYCLES = 500;
    private static final int MOST_AHEAD = 1000;
    private static final int MOST_FAULTS = 16;

    private static final int PLACE = 0;
    private static final int LAST_ADDRESS = 4 * WORDS - 1;
    private static final long LOW_32 = 0xFFFFFFFFL;

    private static final int RUNNING = 0;
    private static final int ADDRESS = 1;
    private static final int ILLEGAL = 2;
    private static final int CALL = 3;
    private static final int BREAK = 4;
    private static final int CHECK = 5;

    private static final int CALL_CODE = 115;
    private static final int BREAK_CODE = 1048691;

    /** What G says of the second form of an instruction: a difference, or a shift with the sign. */
    private static final int OTHER_FORM = 32;

    private final int every;
    private final Memory memory = new Memory();
    private final Cache codeCache = new Cache();
    private final Cache dataCache = new Cache();
    private final Registers registers = new Registers();
    private final Faults faults = new Faults();
    private int cyclesDone;
    private int scrubPlace;
    private int detected;
    private int stopCause;
    private int stopValue;

    public VotedCore(int every) {
        this.every = Math.max(1, Math.min(MOST_EVERY, every));
    }

    public boolean write(int w, int value) {
        if (!isWord(w)) {
            return false;
        }
        memory.keep(w, value);
        codeCache.dropAll();
        dataCache.dropAll();
        return true;
    }

    public boolean set(int r, int value) {
        if (!isRegister(r)) {
            return false;
        }
        registers.put(r, value);
        return true;
    }

    public int register(int r) {
        return isRegister(r) ? registers.agreed(r) : 0;
    }

    public long look(int w) {
        return isWord(w) ? memory.inspect(w) : BAD;
    }

    public long bits(int part) {
        if (part < 0 || part >= PARTS) {
            return BAD;
        }
        if (part < FIRST_COPY_PART) {
            return memory.kept[part];
        }
        if (part < FIRST_CODE_PART) {
            return registers.copies[part - FIRST_COPY_PART] & LOW_32;
        }
        if (part < FIRST_DATA_PART) {
            return codeCache.lines[part - FIRST_CODE_PART];
        }
        return dataCache.lines[part - FIRST_DATA_PART];
    }

    public boolean flip(int part, int bit) {
        if (!isBit(part, bit)) {
            return false;
        }
        invert(part, bit);
        return true;
    }

    public boolean plan(int in, int part, int bit) {
        if (in < 1 || in > MOST_AHEAD || !isBit(part, bit) || faults.size == MOST_FAULTS) {
            return false;
        }
        faults.append(cyclesDone + in, part, bit);
        return true;
    }

    public int planned() {
        return faults.size;
    }

    public int run(int n) {
        if (n < 0 || n > MOST_CYCLES) {
            return BAD;
        }
        int done = 0;
        while (done < n && stopCause == RUNNING) {
            done++;
            cyclesDone++;
            makePlannedFaults();
            registers.vote();
            doInstruction();
            // The scrubber has its turn even in the cycle in which the computer stopped.
            if (cyclesDone % every == 0) {
                scrub();
            }
        }
        return done;
    }

    public int cause() {
        return stopCause;
    }

    public int value() {
        return stopValue;
    }

    public boolean resume(int place) {
        if (stopCause == RUNNING) {
            return false;
        }
        stop(RUNNING, 0);
        registers.put(PLACE, place);
        return true;
    }

    public int cycles() {
        return cyclesDone;
    }

    public int count(int what) {
        switch (what) {
            case 0: return memory.corrected;
            case 1: return detected;
            case 2: return registers.voted;
            case 3: return codeCache.refetched;
            case 4: return dataCache.refetched;
            case 5: return scrubPlace;
            default: return BAD;
        }
    }

    private static boolean isWord(int w) {
        return w >= 0 && w < WORDS;
    }

    private static boolean isRegister(int r) {
        return r >= 0 && r < REGISTERS;
    }

    private static boolean isBit(int part, int bit) {
        if (part < 0 || part >= PARTS || bit < 0) {
            return false;
        }
        if (part < FIRST_COPY_PART) {
            return bit < WORD_BITS;
        }
        return bit < (part < FIRST_CODE_PART ? REGISTER_BITS : LINE_BITS);
    }

    private static boolean isAddress(int address, int size) {
        return address >= 0 && address <= LAST_ADDRESS && (address & (size - 1)) == 0;
    }

    /** Flips a bit that isBit has allowed. */
    private void invert(int part, int bit) {
        if (part < FIRST_COPY_PART) {
            memory.kept[part] ^= 1L << bit;
        } else if (part < FIRST_CODE_PART) {
            registers.copies[part - FIRST_COPY_PART] ^= 1 << bit;
        } else if (part < FIRST_DATA_PART) {
            codeCache.lines[part - FIRST_CODE_PART] ^= 1L << bit;
        } else {
            dataCache.lines[part - FIRST_DATA_PART] ^= 1L << bit;
        }
    }

    private void makePlannedFaults() {
        int left = 0;
        for (int i = 0; i < faults.size; i++) {
            if (faults.cycle[i] == cyclesDone) {
                invert(faults.part[i], faults.bit[i]);
            } else {
                faults.move(i, left);
                left++;
            }
        }
        faults.size = left;
    }

    private void scrub() {
        if (memory.mend(scrubPlace) == BROKEN) {
            detected++;
        }
        scrubPlace = (scrubPlace + 1) % WORDS;
    }

    private void stop(int cause, int value) {
        stopCause = cause;
        stopValue = value;
    }

    /** The value of word w, or BROKEN. */
    private long fetch(Cache cache, int w) {
        cache.dropIfWrong(w);
        if (cache.holds(w)) {
            return cache.held(w);
        }
        long read = memory.mend(w);
        if (read != BROKEN) {
            cache.fill(w, (int) read);
        }
        return read;
    }

    private void save(int w, int value) {
        memory.keep(w, value);
        codeCache.dropIfWrong(w);
        dataCache.dropIfWrong(w);
        if (codeCache.holds(w)) {
            codeCache.drop(w);
        }
        if (dataCache.holds(w)) {
            dataCache.fill(w, value);
        }
    }

    private void doInstruction() {
        int p = registers.agreed(PLACE);
        if (!isAddress(p, 4)) {
            stop(ADDRESS, p);
            return;
        }
        long fetched = fetch(codeCache, p >>> 2);
        if (fetched == BROKEN) {
            stop(CHECK, p >>> 2);
            return;
        }
        int code = (int) fetched;
        switch (Code.op(code)) {
            case 55: finish(p, Code.d(code), Code.u(code)); break;
            case 23: finish(p, Code.d(code), p + Code.u(code)); break;
            case 111: jump(p, Code.d(code), p + Code.l(code)); break;
            case 103: jumpByRegister(p, code); break;
            case 99: branch(p, code); break;
            case 3: load(p, code); break;
            case 35: store(p, code); break;
            case 19: computeWithNumber(p, code); break;
            case 51: computeWithRegister(p, code); break;
            case 15: doNothing(p, code); break;
            default: callOrBreak(code); break;
        }
    }

    /** Ends an instruction that gives a result and goes on to the one behind it. */
    private void finish(int p, int d, int result) {
        registers.putResult(d, result);
        goOn(p);
    }

    private void goOn(int p) {
        registers.put(PLACE, p + 4);
    }

    private void jump(int p, int d, int target) {
        if ((target & 3) != 0) {
            stop(ADDRESS, target);
            return;
        }
        registers.putResult(d, p + 4);
        registers.put(PLACE, target);
    }

    private void jumpByRegister(int p, int code) {
        if (Code.f(code) != 0) {
            stop(ILLEGAL, code);
            return;
        }
        int a = registers.operand(Code.s(code));
        jump(p, Code.d(code), (a + Code.i(code)) & ~1);
    }

    private void branch(int p, int code) {
        int f = Code.f(code);
        if (f == 2 || f == 3) {
            stop(ILLEGAL, code);
            return;
        }
        int a = registers.operand(Code.s(code));
        int b = registers.operand(Code.t(code));
        if (Code.isTaken(f, a, b)) {
            // A branch keeps no way back, and register 0 gets nothing.
            jump(p, 0, p + Code.k(code));
        } else {
            goOn(p);
        }
    }

    private void load(int p, int code) {
        int f = Code.f(code);
        if (f == 3 || f > 5) {
            stop(ILLEGAL, code);
            return;
        }
        int address = registers.operand(Code.s(code)) + Code.i(code);
        if (!isAddress(address, Code.size(f))) {
            stop(ADDRESS, address);
            return;
        }
        long fetched = fetch(dataCache, address >>> 2);
        if (fetched == BROKEN) {
            stop(CHECK, address >>> 2);
            return;
        }
        finish(p, Code.d(code), Code.loaded(f, (int) fetched >>> Code.shiftOf(address)));
    }

    private void store(int p, int code) {
        int f = Code.f(code);
        if (f > 2) {
            stop(ILLEGAL, code);
            return;
        }
        int address = registers.operand(Code.s(code)) + Code.j(code);
        if (!isAddress(address, Code.size(f))) {
            stop(ADDRESS, address);
            return;
        }
        int b = registers.operand(Code.t(code));
        int w = address >>> 2;
        if (f == 2) {
            save(w, b);
            goOn(p);
            return;
        }
        long old = fetch(dataCache, w);
        if (old == BROKEN) {
            stop(CHECK, w);
            return;
        }
        int mask = (f == 0 ? 0xFF : 0xFFFF) << Code.shiftOf(address);
        save(w, (int) old & ~mask | b << Code.shiftOf(address) & mask);
        goOn(p);
    }

    private void computeWithNumber(int p, int code) {
        int f = Code.f(code);
        int g = Code.g(code);
        boolean downWithSign = f == 5 && g == OTHER_FORM;
        boolean isShift = f == 1 || f == 5;
        if (isShift && g != 0 && !downWithSign) {
            stop(ILLEGAL, code);
            return;
        }
        int a = registers.operand(Code.s(code));
        // The lowest five bits of I are T, so that a shift may take I too.
        finish(p, Code.d(code), Code.computed(f, downWithSign, a, Code.i(code)));
    }

    private void computeWithRegister(int p, int code) {
        int f = Code.f(code);
        int g = Code.g(code);
        boolean otherForm = g == OTHER_FORM && (f == 0 || f == 5);
        if (g != 0 && !otherForm) {
            stop(ILLEGAL, code);
            return;
        }
        int a = registers.operand(Code.s(code));
        int b = registers.operand(Code.t(code));
        finish(p, Code.d(code), Code.computed(f, otherForm, a, b));
    }

    private void doNothing(int p, int code) {
        if (Code.f(code) != 0) {
            stop(ILLEGAL, code);
            return;
        }
        goOn(p);
    }

    private void callOrBreak(int code) {
        if (code == CALL_CODE) {
            stop(CALL, 0);
        } else if (code == BREAK_CODE) {
            stop(BREAK, 0);
        } else {
            stop(ILLEGAL, code);
        }
    }

    /** The words, each kept as 39 bits with a code that corrects one wrong bit and sees two. */
    private static final class Memory {
        /** Row i: the bits whose number has bit i. */
        private static final long[] NUMBERED = {
            0x2AAAAAAAAAL, 0x4CCCCCCCCCL, 0x70F0F0F0F0L, 0x00FF00FF00L, 0x00FFFF0000L, 0x7F00000000L
        };

        // The bits of 0 with its code are all 0, so that a new row is a due one.
        private final long[] kept = new long[WORDS];
        private int corrected;

        private void keep(int w, int value) {
            long word = spread(value);
            int numbers = xorOfNumbers(word);
            for (int i = 0; i < NUMBERED.length; i++) {
                word |= (numbers >>> i & 1L) << (1 << i);
            }
            kept[w] = word | Long.bitCount(word) & 1;
        }

        private long inspect(int w) {
            long right = putRight(kept[w]);
            return right == BROKEN ? BROKEN : gathered(right);
        }

        /** Puts a wrong bit right where it is kept; answers the value, or BROKEN. */
        private long mend(int w) {
            long right = putRight(kept[w]);
            if (right == BROKEN) {
                return BROKEN;
            }
            if (right != kept[w]) {
                kept[w] = right;
                corrected++;
            }
            return gathered(right);
        }

        private static long putRight(long word) {
            int numbers = xorOfNumbers(word);
            boolean odd = (Long.bitCount(word) & 1) == 1;
            if (!odd) {
                return numbers == 0 ? word : BROKEN;
            }
            return numbers < WORD_BITS ? word ^ 1L << numbers : BROKEN;
        }

        private static int xorOfNumbers(long word) {
            int numbers = 0;
            for (int i = 0; i < NUMBERED.length; i++) {
                numbers |= (Long.bitCount(word & NUMBERED[i]) & 1) << i;
            }
            return numbers;
        }

        /** A value's bits at their numbers, between which the code's own bits 0, 1, 2, 4, 8, 16, 32 lie. */
        private static long spread(int value) {
            return (value & 0x1L) << 3
                | (value & 0xEL) << 4
                | (value & 0x7F0L) << 5
                | (value & 0x3FFF800L) << 6
                | (value & 0xFC000000L) << 7;
        }

        private static long gathered(long word) {
            return word >>> 3 & 0x1L
                | word >>> 4 & 0xEL
                | word >>> 5 & 0x7F0L
                | word >>> 6 & 0x3FFF800L
                | word >>> 7 & 0xFC000000L;
        }
    }

    /** Four lines with parity; word w has its turn in line w % 4. */
    private static final class Cache {
        private static final int TAG_AT = 32;
        private static final int PARITY_AT = 37;
        private static final int TAG_AND_FULL = 31;
        private static final int FULL = 16;

        private final long[] lines = new long[LINES];
        private int refetched;

        private void dropAll() {
            Arrays.fill(lines, 0L);
        }

        private void drop(int w) {
            lines[w & 3] = 0L;
        }

        private void dropIfWrong(int w) {
            if ((Long.bitCount(lines[w & 3]) & 1) == 1) {
                lines[w & 3] = 0L;
                refetched++;
            }
        }

        private boolean holds(int w) {
            return (lines[w & 3] >>> TAG_AT & TAG_AND_FULL) == (FULL | w >>> 2);
        }

        private long held(int w) {
            return lines[w & 3] & LOW_32;
        }

        private void fill(int w, int value) {
            long line = value & LOW_32 | (long) (FULL | w >>> 2) << TAG_AT;
            lines[w & 3] = line | (Long.bitCount(line) & 1L) << PARITY_AT;
        }
    }

    /** The registers in three copies; register 0 is the place of the next instruction. */
    private static final class Registers {
        private final int[] copies = new int[COPIES * REGISTERS];
        private int voted;

        private int agreed(int r) {
            int x = copies[COPIES * r];
            int y = copies[COPIES * r + 1];
            int z = copies[COPIES * r + 2];
            return x & y | x & z | y & z;
        }

        private void put(int r, int value) {
            copies[COPIES * r] = value;
            copies[COPIES * r + 1] = value;
            copies[COPIES * r + 2] = value;
        }

        /** What an instruction finds in register r, for which 0 is not the place. */
        private int operand(int r) {
            return r == 0 ? 0 : agreed(r);
        }

        private void putResult(int d, int value) {
            if (d != 0) {
                put(d, value);
            }
        }

        private void vote() {
            for (int r = 0; r < REGISTERS; r++) {
                int x = copies[COPIES * r];
                if (x != copies[COPIES * r + 1] || x != copies[COPIES * r + 2]) {
                    put(r, agreed(r));
                    voted++;
                }
            }
        }
    }

    /** The planned faults, in the order in which they were planned. */
    private static final class Faults {
        private final int[] cycle = new int[MOST_FAULTS];
        private final int[] part = new int[MOST_FAULTS];
        private final int[] bit = new int[MOST_FAULTS];
        private int size;

        /** The caller has seen that there is room. */
        private void append(int dueCycle, int duePart, int dueBit) {
            cycle[size] = dueCycle;
            part[size] = duePart;
            bit[size] = dueBit;
            size++;
        }

        private void move(int from, int to) {
            cycle[to] = cycle[from];
            part[to] = part[from];
            bit[to] = bit[from];
        }
    }

    /** What an instruction's bits tell, under the document's names for them. */
    private static final class Code {
        private static int op(int code) {
            return code & 127;
        }

        private static int d(int code) {
            return code >>> 7 & 31;
        }

        private static int f(int code) {
            return code >>> 12 & 7;
        }

        private static int s(int code) {
            return code >>> 15 & 31;
        }

        private static int t(int code) {
            return code >>> 20 & 31;
        }

        private static int g(int code) {
            return code >>> 25;
        }

        private static int i(int code) {
            return code >> 20;
        }

        private static int j(int code) {
            return code >> 25 << 5 | d(code);
        }

        private static int k(int code) {
            return code >> 31 << 12 | (code >>> 7 & 1) << 11 | (code >>> 25 & 63) << 5 | (code >>> 8 & 15) << 1;
        }

        private static int u(int code) {
            return code & ~0xFFF;
        }

        private static int l(int code) {
            return code >> 31 << 20 | code & 0xFF000 | (code >>> 20 & 1) << 11 | (code >>> 21 & 1023) << 1;
        }

        /** How many bytes a load or a store with this F is about. */
        private static int size(int f) {
            return 1 << (f & 3);
        }

        /** How far a byte or a half at this address stands from its word's lowest bit. */
        private static int shiftOf(int address) {
            return (address & 3) << 3;
        }

        private static int loaded(int f, int shifted) {
            switch (f) {
                case 0: return (byte) shifted;
                case 1: return (short) shifted;
                case 4: return shifted & 0xFF;
                case 5: return shifted & 0xFFFF;
                default: return shifted;
            }
        }

        private static boolean isTaken(int f, int a, int b) {
            switch (f) {
                case 0: return a == b;
                case 1: return a != b;
                case 4: return a < b;
                case 5: return a >= b;
                case 6: return Integer.compareUnsigned(a, b) < 0;
                default: return Integer.compareUnsigned(a, b) >= 0;
            }
        }

        private static int computed(int f, boolean otherForm, int a, int b) {
            switch (f) {
                case 0: return otherForm ? a - b : a + b;
                case 1: return a << (b & 31);
                case 2: return a < b ? 1 : 0;
                case 3: return Integer.compareUnsigned(a, b) < 0 ? 1 : 0;
                case 4: return a ^ b;
                case 5: return otherForm ? a >> (b & 31) : a >>> (b & 31);
                case 6: return a | b;
                default: return a & b;
            }
        }
    }
}
