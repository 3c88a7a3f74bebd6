/** Terms, AN INSTRUCTION: what each one does, which there are, and the order of their tests. */
public final class InstructionsTest {
    private static final int MIN = Integer.MIN_VALUE;
    private static final int MAX = Integer.MAX_VALUE;

    public static void main(String[] args) {
        uppers();
        computingWithNumbers();
        computingWithRegisters();
        shifts();
        jumps();
        jumpsByRegister();
        branches();
        loads();
        loadAddresses();
        stores();
        storeAddresses();
        register0();
        nothing();
        thoseWithoutAResult();
        illegalOnes();
        place();
        orderOfTests();
        Check.end();
    }

    /** What register 3 gets from an instruction with register 1 as S and 2 as T. */
    private static void gives(String what, int instruction, int a, int b, int want) {
        VotedCore x = Asm.core(Asm.NOP, instruction);
        x.set(1, a);
        x.set(2, b);
        x.set(3, 12345);
        x.run(2);
        Check.due(what + ": register", x.register(3), want);
        Check.due(what + ": cause", x.cause(), 0);
        Check.due(what + ": place", x.register(0), 8);
    }

    private static void stops(String what, VotedCore x, int cause, int value) {
        int[] before = new int[32];
        long[] words = new long[64];
        for (int r = 0; r < 32; r++) {
            before[r] = x.register(r);
        }
        for (int w = 0; w < 64; w++) {
            words[w] = x.bits(w);
        }
        Check.due(what + ": run", x.run(2), 1);
        Check.due(what + ": cause", x.cause(), cause);
        Check.due(what + ": value", x.value(), value);
        for (int r = 0; r < 32; r++) {
            Check.due(what + ": register " + r, x.register(r), before[r]);
        }
        for (int w = 0; w < 64; w++) {
            Check.due(what + ": word " + w, x.bits(w), words[w]);
        }
    }

    private static void uppers() {
        gives("U", Asm.upper(3, 0x12345000), 0, 0, 0x12345000);
        gives("U, highest bit", Asm.upper(3, 0xFFFFF000), 0, 0, 0xFFFFF000);
        gives("p + U", Asm.upperFromPlace(3, 0x12345000), 0, 0, 0x12345004);
        gives("p + U, highest bit", Asm.upperFromPlace(3, 0x80000000), 0, 0, 0x80000004);
    }

    private static void computingWithNumbers() {
        gives("a + I", Asm.number(0, 3, 1, 2047), 5, 0, 2052);
        gives("a + I below 0", Asm.number(0, 3, 1, -2048), 5, 0, -2043);
        gives("a + I wraps", Asm.number(0, 3, 1, 1), MAX, 0, MIN);
        gives("less", Asm.number(2, 3, 1, -1), -2, 0, 1);
        gives("not less, equal", Asm.number(2, 3, 1, -2), -2, 0, 0);
        gives("not less, sign", Asm.number(2, 3, 1, -1), 3, 0, 0);
        gives("less without signs", Asm.number(3, 3, 1, -1), 3, 0, 1);
        gives("not less without signs", Asm.number(3, 3, 1, 3), -1, 0, 0);
        gives("not less without signs, equal", Asm.number(3, 3, 1, 3), 3, 0, 0);
        gives("xor", Asm.number(4, 3, 1, -1), 0x0F0F0F0F, 0, 0xF0F0F0F0);
        gives("or", Asm.number(6, 3, 1, 0x70F), 0x0F0F0F0F, 0, 0x0F0F0F0F);
        gives("or with a sign", Asm.number(6, 3, 1, -256), 1, 0, -255);
        gives("and", Asm.number(7, 3, 1, -16), 0x0F0F0F0F, 0, 0x0F0F0F00);
        gives("S 0 is not the place", Asm.number(0, 3, 0, 9), 0, 0, 9);
    }

    private static void computingWithRegisters() {
        gives("a + b", Asm.registers(0, 0, 3, 1, 2), MAX, 2, MIN + 1);
        gives("a - b", Asm.registers(32, 0, 3, 1, 2), MIN, 1, MAX);
        gives("a less than b", Asm.registers(0, 2, 3, 1, 2), MIN, MAX, 1);
        gives("a is b", Asm.registers(0, 2, 3, 1, 2), MIN, MIN, 0);
        gives("a not less than b", Asm.registers(0, 2, 3, 1, 2), 1, -1, 0);
        gives("less without signs", Asm.registers(0, 3, 3, 1, 2), MAX, MIN, 1);
        gives("not less without signs", Asm.registers(0, 3, 3, 1, 2), -1, 1, 0);
        gives("equal without signs", Asm.registers(0, 3, 3, 1, 2), -1, -1, 0);
        gives("xor", Asm.registers(0, 4, 3, 1, 2), 0b1100, 0b1010, 0b0110);
        gives("or", Asm.registers(0, 6, 3, 1, 2), 0b1100, 0b1010, 0b1110);
        gives("and", Asm.registers(0, 7, 3, 1, 2), 0b1100, 0b1010, 0b1000);
        gives("T 0 is not the place", Asm.registers(0, 0, 3, 1, 0), 40, 0, 40);
        gives("S 0 is not the place", Asm.registers(0, 0, 3, 0, 2), 0, 41, 41);
        gives("D may be S", Asm.registers(0, 0, 3, 3, 3), 0, 0, 24690);
    }

    private static void shifts() {
        gives("up by 0", Asm.shift(0, 1, 3, 1, 0), -7, 0, -7);
        gives("up by 31", Asm.shift(0, 1, 3, 1, 31), 3, 0, MIN);
        gives("up by 4", Asm.shift(0, 1, 3, 1, 4), 0x12345678, 0, 0x23456780);
        gives("down by 4", Asm.shift(0, 5, 3, 1, 4), 0x87654321, 0, 0x08765432);
        gives("down by 31", Asm.shift(0, 5, 3, 1, 31), -1, 0, 1);
        gives("down with its sign by 4", Asm.shift(32, 5, 3, 1, 4), 0x87654321, 0, 0xF8765432);
        gives("down with its sign by 31", Asm.shift(32, 5, 3, 1, 31), MIN, 0, -1);
        gives("T is the number, not the register", Asm.shift(0, 1, 3, 1, 2), 1, 9, 4);
        gives("up by b", Asm.registers(0, 1, 3, 1, 2), 1, 36, 16);
        gives("up by the lowest bits of -1", Asm.registers(0, 1, 3, 1, 2), 1, -1, MIN);
        gives("down by b", Asm.registers(0, 5, 3, 1, 2), MIN, 32 + 31, 1);
        gives("down with its sign by b", Asm.registers(32, 5, 3, 1, 2), MIN, -32 + 30, -2);
    }

    private static void goes(String what, VotedCore x, int d, int link, int target) {
        Check.due(what + ": run", x.run(1), 1);
        Check.due(what + ": cause", x.cause(), 0);
        Check.due(what + ": register", x.register(d), link);
        Check.due(what + ": place", x.register(0), target);
    }

    private static VotedCore at(int w, int instruction) {
        VotedCore x = new VotedCore(64);
        x.write(w, instruction);
        x.set(0, 4 * w);
        return x;
    }

    private static void jumps() {
        goes("jump on", at(2, Asm.jump(5, 40)), 5, 12, 48);
        goes("jump back", at(20, Asm.jump(31, -80)), 31, 84, 0);
        goes("jump far on", at(2, Asm.jump(5, 0xFFFFC)), 5, 12, 0x100004);
        goes("jump far back", at(2, Asm.jump(5, -0x100000)), 5, 12, 8 - 0x100000);
        for (int bit = 2; bit < 20; bit++) {
            goes("jump by bit " + bit, at(1, Asm.jump(1, 1 << bit)), 1, 8, 4 + (1 << bit));
        }
        goes("jump without a register", at(2, Asm.jump(0, 8)), 0, 16, 16);
        stops("jump to a half", at(2, Asm.jump(5, 6)), 1, 14);
        VotedCore x = at(2, Asm.jump(5, 1024));
        x.run(1);
        Check.due("the target may be nowhere", x.cause(), 0);
        stops("the next place then not", x, 1, 1032);
    }

    private static void jumpsByRegister() {
        VotedCore x = at(3, Asm.jumpBy(5, 6, -4));
        x.set(6, 105);
        goes("bit 0 is made 0", x, 5, 16, 100);
        x = at(3, Asm.jumpBy(6, 6, 8));
        x.set(6, 40);
        goes("D may be S", x, 6, 16, 48);
        x = at(3, Asm.jumpBy(1, 6, 1));
        x.set(6, -1);
        goes("wraps to 0", x, 1, 16, 0);
        x = at(3, Asm.jumpBy(1, 6, -2048));
        goes("below 0", x, 1, 16, -2048);
        x = at(3, Asm.jumpBy(5, 6, 0));
        x.set(6, 43);
        stops("a target that is a half", x, 1, 42);
        goes("from register 0", at(3, Asm.jumpBy(1, 0, 20)), 1, 16, 20);
    }

    private static void branches() {
        int[] values = {0, 1, -1, MIN, MAX, 7};
        for (int a : values) {
            for (int b : values) {
                branch(0, a, b, a == b);
                branch(1, a, b, a != b);
                branch(4, a, b, a < b);
                branch(5, a, b, a >= b);
                branch(6, a, b, (a & 0xFFFFFFFFL) < (b & 0xFFFFFFFFL));
                branch(7, a, b, (a & 0xFFFFFFFFL) >= (b & 0xFFFFFFFFL));
            }
        }
        for (int bit = 2; bit < 12; bit++) {
            goes("branch by bit " + bit, at(1, Asm.branch(0, 0, 0, 1 << bit)), 1, 0, 4 + (1 << bit));
        }
        goes("branch far back", at(1, Asm.branch(0, 0, 0, -4096)), 1, 0, -4092);
        goes("branch back", at(5, Asm.branch(0, 0, 0, -12)), 1, 0, 8);
        stops("a taken branch to a half", at(1, Asm.branch(0, 0, 0, 6)), 1, 10);
        goes("one that is not taken", at(1, Asm.branch(1, 0, 0, 6)), 1, 0, 8);
        goes("no register gets anything", at(1, Asm.branch(0, 0, 0, 16)), 16, 0, 20);
    }

    private static void branch(int f, int a, int b, boolean taken) {
        VotedCore x = at(4, Asm.branch(f, 1, 2, 64));
        x.set(1, a);
        x.set(2, b);
        x.run(1);
        Check.due("branch " + f + " of " + a + " and " + b, x.register(0), taken ? 80 : 20);
    }

    private static void loads() {
        int[] bytes = {0x84, 0x73, 0xF2, 0x81};
        for (int i = 0; i < 4; i++) {
            loads(0, i, (byte) bytes[i]);
            loads(4, i, bytes[i]);
        }
        loads(1, 0, 0x7384);
        loads(5, 0, 0x7384);
        loads(1, 2, 0xFFFF81F2);
        loads(5, 2, 0x81F2);
        loads(2, 0, 0x81F27384);
    }

    private static void loads(int f, int offset, int want) {
        VotedCore x = Asm.core(Asm.load(f, 3, 1, -20 + offset));
        x.write(63, 0x81F27384);
        x.set(1, 272);
        x.run(1);
        Check.due("load " + f + " of byte " + offset, x.register(3), want);
        Check.due("load " + f + " of byte " + offset + ": place", x.register(0), 4);
    }

    private static void loadAddresses() {
        int[] kinds = {0, 1, 2, 4, 5};
        int[] sizes = {1, 2, 4, 1, 2};
        for (int i = 0; i < kinds.length; i++) {
            for (int address = -8; address < 264; address++) {
                VotedCore x = Asm.core(Asm.load(kinds[i], 3, 1, 4));
                x.set(1, address - 4);
                boolean fine = address >= 0 && address < 256 && address % sizes[i] == 0;
                x.run(1);
                Check.due("load " + kinds[i] + " at " + address, x.cause(), fine ? 0 : 1);
                Check.due("its value", x.value(), fine ? 0 : address);
            }
        }
        VotedCore x = Asm.core(Asm.load(0, 3, 1, 1));
        x.set(1, MAX);
        stops("an address that wraps", x, 1, MIN);
        x = Asm.core(Asm.load(0, 3, 1, 1));
        x.set(1, -1);
        x.run(1);
        Check.due("an address that wraps to 0", x.register(3), (byte) Asm.load(0, 3, 1, 1));
    }

    private static void stores() {
        for (int i = 0; i < 4; i++) {
            stores(0, i, 0x11223344 & ~(0xFF << 8 * i) | 0xDD << 8 * i);
        }
        stores(1, 0, 0x1122CCDD);
        stores(1, 2, 0xCCDD3344);
        stores(2, 0, 0xAABBCCDD);
        VotedCore x = Asm.core(Asm.store(2, 0, 0, 40));
        x.set(0, 0);
        x.write(10, 5);
        x.run(1);
        Check.due("T 0 is 0", x.look(10), 0);
        for (int j = 32; j < 256; j += 4) {
            x = Asm.core(Asm.store(2, 2, 0, j));
            x.set(2, 77);
            x.run(1);
            Check.due("stored at J " + j, x.look(j / 4), 77);
        }
    }

    private static void stores(int f, int offset, int want) {
        VotedCore x = Asm.core(Asm.store(f, 2, 1, -52 + offset));
        x.write(63, 0x11223344);
        x.set(1, 304);
        x.set(2, 0xAABBCCDD);
        x.run(1);
        Check.due("store " + f + " to byte " + offset, x.look(63), want & 0xFFFFFFFFL);
        Check.due("store " + f + " to byte " + offset + ": place", x.register(0), 4);
        Check.due("no register gets anything", x.register((-52 + offset) & 31), 0);
    }

    private static void storeAddresses() {
        for (int f = 0; f < 3; f++) {
            for (int address = -8; address < 264; address++) {
                VotedCore x = Asm.core(Asm.store(f, 2, 1, 4));
                x.set(1, address - 4);
                x.set(2, 9);
                boolean fine = address >= 0 && address < 256 && address % (1 << f) == 0;
                if (fine) {
                    x.run(1);
                    Check.due("store " + f + " at " + address, x.cause(), 0);
                } else {
                    stops("store " + f + " at " + address, x, 1, address);
                }
            }
        }
    }

    private static void register0() {
        int[] intoRegister0 = {
            Asm.upper(0, 0x12345000), Asm.upperFromPlace(0, 0x12345000), Asm.add(0, 0, 99),
            Asm.registers(0, 0, 0, 1, 1), Asm.load(2, 0, 0, 0), Asm.shift(0, 1, 0, 1, 3)
        };
        for (int instruction : intoRegister0) {
            VotedCore x = Asm.core(instruction, Asm.add(3, 0, 0));
            x.set(1, 3);
            x.run(1);
            Check.due("register 0 gets nothing: " + instruction, x.register(0), 4);
            x.run(1);
            Check.due("it is 0: " + instruction, x.register(3), 0);
        }
        VotedCore x = Asm.core(Asm.load(2, 0, 0, 40));
        x.flip(10, 0);
        x.flip(10, 1);
        stops("a load into register 0 is made all the same", x, 5, 10);
    }

    private static void nothing() {
        gives("nothing", 15, 0, 0, 12345);
        gives("nothing, with other fields", 15 | 3 << 7 | 1 << 15 | 2 << 20 | 127 << 25, 1, 1, 12345);
    }

    /** Branches, stores and the one that does nothing leave all registers but the place, whatever their bits 7 .. 11 say. */
    private static void thoseWithoutAResult() {
        int[] instructions = {
            Asm.branch(0, 0, 0, 20), Asm.branch(1, 0, 0, 20), Asm.branch(0, 0, 0, 12), Asm.store(0, 3, 0, 41),
            Asm.store(1, 3, 0, 42), Asm.store(2, 3, 0, 44), 15 | 3 << 7
        };
        for (int instruction : instructions) {
            VotedCore x = Asm.core(instruction);
            for (int r = 1; r < 32; r++) {
                x.set(r, 7000 + r);
            }
            x.run(1);
            Check.due(instruction + ": cause", x.cause(), 0);
            for (int r = 1; r < 32; r++) {
                Check.due(instruction + ": register " + r, x.register(r), 7000 + r);
            }
        }
    }

    private static void illegal(int instruction) {
        stops("illegal " + instruction, Asm.core(instruction), 2, instruction);
    }

    private static void illegalOnes() {
        boolean[] known = new boolean[128];
        for (int op : new int[] {55, 23, 111, 103, 99, 3, 35, 19, 51, 15}) {
            known[op] = true;
        }
        for (int op = 0; op < 128; op++) {
            if (!known[op] && op != 115) {
                illegal(op);
                illegal(op | -1 << 7);
            }
        }
        for (int f = 1; f < 8; f++) {
            illegal(15 | f << 12);
            illegal(Asm.withI(103, f, 1, 0, 0));
        }
        for (int f = 2; f < 4; f++) {
            illegal(Asm.branch(f, 0, 0, 8));
        }
        for (int f : new int[] {3, 6, 7}) {
            illegal(Asm.load(f, 1, 0, 0));
        }
        for (int f = 3; f < 8; f++) {
            illegal(Asm.store(f, 1, 0, 0));
        }
        for (int g = 1; g < 128; g++) {
            illegal(Asm.shift(g, 1, 3, 1, 2));
            for (int f = 0; f < 8; f++) {
                if (g != 32 || f != 0 && f != 5) {
                    illegal(Asm.registers(g, f, 3, 1, 2));
                }
            }
            if (g != 32) {
                illegal(Asm.shift(g, 5, 3, 1, 2));
            }
        }
        for (int bit = 7; bit < 32; bit++) {
            // Bit 20 makes the one the other.
            if (bit != 20) {
                illegal(Asm.CALL ^ 1 << bit);
                illegal(Asm.BREAK ^ 1 << bit);
            }
        }
        stops("CALL", Asm.core(Asm.CALL), 3, 0);
        stops("BREAK", Asm.core(Asm.BREAK), 4, 0);
    }

    private static void place() {
        for (int p = -8; p < 264; p++) {
            VotedCore x = new VotedCore(64);
            for (int w = 0; w < 64; w++) {
                x.write(w, Asm.NOP);
            }
            x.set(0, p);
            boolean fine = p >= 0 && p < 256 && p % 4 == 0;
            if (fine) {
                goes("place " + p, x, 1, 0, p + 4);
            } else {
                stops("place " + p, x, 1, p);
                Check.due("no line is touched", x.bits(160) + x.bits(161) + x.bits(162) + x.bits(163), 0);
            }
        }
    }

    private static void orderOfTests() {
        VotedCore x = Asm.core(-1);
        x.flip(0, 0);
        x.flip(0, 1);
        stops("CHECK before ILLEGAL", x, 5, 0);
        x = at(63, -1);
        x.flip(63, 0);
        x.flip(63, 1);
        stops("CHECK tells the word's number", x, 5, 63);
        x = Asm.core(-1);
        x.flip(0, 0);
        x.flip(0, 1);
        x.set(0, 2);
        stops("the place before CHECK", x, 1, 2);
        stops("ILLEGAL before addresses", Asm.core(Asm.load(3, 1, 0, 1)), 2, Asm.load(3, 1, 0, 1));
        stops("ILLEGAL before the target", Asm.core(Asm.withI(103, 1, 1, 0, 2)), 2, Asm.withI(103, 1, 1, 0, 2));
        x = Asm.core(Asm.load(2, 1, 0, 41));
        x.flip(10, 0);
        x.flip(10, 1);
        stops("addresses before CHECK of data", x, 1, 41);
        x = Asm.core(Asm.load(7, 1, 0, 40));
        x.flip(10, 0);
        x.flip(10, 1);
        stops("ILLEGAL before CHECK of data", x, 2, Asm.load(7, 1, 0, 40));
    }
}
