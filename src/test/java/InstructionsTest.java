/** Terms, AN INSTRUCTION: what each one does, which there are, what stops the computer, and the order of the tests. */
public final class InstructionsTest {
    private static final int MIN = Integer.MIN_VALUE;
    private static final int MAX = Integer.MAX_VALUE;
    private static final int[] LOADS = {0, 1, 2, 4, 5};

    public static void main(String[] args) {
        place();
        targetsOfJumps();
        targetsOfBranches();
        targetsMayBeAnywhere();
        addressesOfLoads();
        addressesOfStores();
        bytesMayBeAnywhere();
        illegalOnes();
        callAndBreak();
        check();
        aStopChangesNothing();
        aStopKeepsCachesAndCorrections();
        theNextPlace();
        numbersWrap();
        numberI();
        numberJ();
        numberK();
        numberU();
        numberL();
        registerZeroGetsNothing();
        uppers();
        jumps();
        jumpsByRegister();
        branches();
        loads();
        stores();
        storesOfBytesAndHalvesFetch();
        computingWithNumbers();
        shiftsByT();
        computingWithRegisters();
        shiftsByRegister();
        nothing();
        thoseWithoutAResult();
        orderOfTests();
        Check.end();
    }

    /** What register 3 gets from an instruction at address 4, with a in register 1 and b in register 2. */
    private static void gives(String what, int instruction, int a, int b, int want) {
        VotedCore x = Asm.core(Asm.NOP, instruction);
        x.set(1, a);
        x.set(2, b);
        x.set(3, 12345);
        x.run(2);
        Check.due(what + ": register", x.register(3), want);
        Check.due(what + ": cause", x.cause(), 0);
        Check.due(what + ": place", x.register(0), 8);
    }

    /** It stops at once, and no register and no word is another one then. */
    private static void stops(String what, VotedCore x, int cause, int value) {
        int[] before = new int[32];
        long[] words = new long[64];
        for (int r = 0; r < 32; r++) {
            before[r] = x.register(r);
        }
        for (int w = 0; w < 64; w++) {
            words[w] = x.bits(w);
        }
        Check.due(what + ": run", x.run(2), 1);
        Check.due(what + ": cause", x.cause(), cause);
        Check.due(what + ": value", x.value(), value);
        for (int r = 0; r < 32; r++) {
            Check.due(what + ": register " + r, x.register(r), before[r]);
        }
        for (int w = 0; w < 64; w++) {
            Check.due(what + ": word " + w, x.bits(w), words[w]);
        }
    }

    private static void goes(String what, VotedCore x, int d, int link, int target) {
        Check.due(what + ": run", x.run(1), 1);
        Check.due(what + ": cause", x.cause(), 0);
        Check.due(what + ": register", x.register(d), link);
        Check.due(what + ": place", x.register(0), target);
    }

    private static VotedCore at(int w, int instruction) {
        VotedCore x = new VotedCore(64);
        x.write(w, instruction);
        x.set(0, 4 * w);
        return x;
    }

    private static VotedCore with(VotedCore x, int r, int value) {
        x.set(r, value);
        return x;
    }

    private static VotedCore broken(VotedCore x, int w) {
        x.flip(w, 0);
        x.flip(w, 1);
        return x;
    }

    private static void place() {
        Check.sentence("Terms, an instruction", "1 ADDRESS: p is not a multiple of 4, or not 0 .. 255: the value is that place");
        for (int p = -8; p < 264; p++) {
            VotedCore x = new VotedCore(64);
            for (int w = 0; w < 64; w++) {
                x.write(w, Asm.NOP);
            }
            x.set(0, p);
            if (p >= 0 && p < 256 && p % 4 == 0) {
                goes("place " + p, x, 1, 0, p + 4);
            } else {
                stops("place " + p, x, 1, p);
                Check.due("no line is touched", x.bits(160) + x.bits(161) + x.bits(162) + x.bits(163), 0);
            }
        }
        for (int p : new int[] {MIN, MAX, MIN + 4, MAX - 3, 512, 1024, 65536, 1 << 30, -256}) {
            stops("place " + p, with(at(0, Asm.NOP), 0, p), 1, p);
        }
    }

    private static void targetsOfJumps() {
        Check.sentence("Terms, an instruction", "4 for the target of a jump: the value is that target");
        stops("jump to a half", at(2, Asm.jump(5, 6)), 1, 14);
        stops("jump back to a half", at(2, Asm.jump(5, -2)), 1, 6);
        stops("jump to a half before 0", at(2, Asm.jump(0, -10)), 1, -2);
        stops("the farthest jump", at(0, Asm.jump(5, 0xFFFFE)), 1, 0xFFFFE);
        for (int a = 40; a < 48; a++) {
            VotedCore x = with(at(3, Asm.jumpBy(5, 6, 0)), 6, a);
            if ((a & 2) == 0) {
                goes("jump to register " + a, x, 5, 16, a & ~1);
            } else {
                stops("jump to register " + a, x, 1, a & ~1);
            }
        }
        stops("to the greatest number", with(at(3, Asm.jumpBy(5, 6, 0)), 6, MAX), 1, MAX - 1);
        stops("to -1", with(at(3, Asm.jumpBy(5, 6, 0)), 6, -1), 1, -2);
    }

    private static void targetsOfBranches() {
        Check.sentence("Terms, an instruction", "4 for the target of a branch that is taken");
        int[][] taken = {{0, 0, 0}, {1, 0, 1}, {4, 0, 1}, {5, 1, 0}, {6, 0, 1}, {7, 1, 0}};
        for (int[] t : taken) {
            VotedCore x = with(at(1, Asm.branch(t[0], 1, 2, 6)), 1, t[1]);
            stops("taken to a half, F " + t[0], with(x, 2, t[2]), 1, 10);
        }
        int[][] notTaken = {{0, 0, 1}, {1, 0, 0}, {4, 1, 0}, {5, 0, 1}, {6, 1, 0}, {7, 0, 1}};
        for (int[] t : notTaken) {
            VotedCore x = with(at(1, Asm.branch(t[0], 1, 2, 6)), 1, t[1]);
            goes("not taken to a half, F " + t[0], with(x, 2, t[2]), 3, 0, 8);
        }
        stops("taken back to a half", at(1, Asm.branch(0, 0, 0, -2)), 1, 2);
        stops("the farthest branch", at(1, Asm.branch(0, 0, 0, 4094)), 1, 4098);
    }

    private static void targetsMayBeAnywhere() {
        Check.sentence("Terms, an instruction", "or, but for targets, not 0 .. 255");
        VotedCore x = at(2, Asm.jump(5, 1024));
        goes("jump behind the last word", x, 5, 12, 1032);
        stops("the next cycle does not", x, 1, 1032);
        x = at(63, Asm.jump(5, 4));
        goes("jump right behind the last word", x, 5, 256, 256);
        stops("the next cycle stops at 256", x, 1, 256);
        x = at(0, Asm.jump(5, -4));
        goes("jump right before the first word", x, 5, 4, -4);
        stops("the next cycle stops at -4", x, 1, -4);
        x = at(0, Asm.branch(0, 0, 0, -4));
        goes("branch right before the first word", x, 5, 0, -4);
        x = at(63, Asm.branch(0, 0, 0, 4));
        goes("branch right behind the last word", x, 5, 0, 256);
        x = with(at(3, Asm.jumpBy(5, 6, 0)), 6, MIN);
        goes("jump to the least number", x, 5, 16, MIN);
        stops("the next cycle stops there", x, 1, MIN);
        x = with(at(3, Asm.jumpBy(5, 6, 0)), 6, MAX - 3);
        goes("jump to the greatest multiple of 4", x, 5, 16, MAX - 3);
    }

    private static boolean isFine(int address, int size) {
        return address >= 0 && address < 256 && address % size == 0;
    }

    private static void addressesOfLoads() {
        Check.sentence("Terms, an instruction", "an address that it uses is not a multiple of what is asked for (4 for words; 2 for halves), or not 0 .. 255: the value is that address (loads)");
        int[] sizes = {1, 2, 4, 1, 2};
        for (int i = 0; i < LOADS.length; i++) {
            for (int address = -8; address < 264; address++) {
                VotedCore x = with(Asm.core(Asm.load(LOADS[i], 3, 1, 4)), 1, address - 4);
                boolean fine = isFine(address, sizes[i]);
                x.run(1);
                Check.due("load " + LOADS[i] + " at " + address, x.cause(), fine ? 0 : 1);
                Check.due("its value", x.value(), fine ? 0 : address);
                Check.due("the place", x.register(0), fine ? 4 : 0);
            }
            for (int address : new int[] {MIN, MAX, 512, 65536, -256, 1 << 30}) {
                stops("load " + LOADS[i] + " at " + address, with(Asm.core(Asm.load(LOADS[i], 3, 1, 0)), 1, address), 1, address);
            }
        }
    }

    private static void addressesOfStores() {
        Check.sentence("Terms, an instruction", "an address that it uses is not a multiple of what is asked for (4 for words; 2 for halves), or not 0 .. 255: the value is that address (stores)");
        for (int f = 0; f < 3; f++) {
            for (int address = -8; address < 264; address++) {
                VotedCore x = with(Asm.core(Asm.store(f, 2, 1, 4)), 1, address - 4);
                x.set(2, 9);
                if (isFine(address, 1 << f)) {
                    x.run(1);
                    Check.due("store " + f + " at " + address, x.cause(), 0);
                } else {
                    stops("store " + f + " at " + address, x, 1, address);
                }
            }
            for (int address : new int[] {MIN, MAX, 512, 65536, -256, 1 << 30}) {
                stops("store " + f + " at " + address, with(Asm.core(Asm.store(f, 2, 1, 0)), 1, address), 1, address);
            }
        }
    }

    private static void bytesMayBeAnywhere() {
        Check.sentence("Terms, an instruction", "4 for words; 2 for halves (and nothing is asked for of bytes)");
        for (int address = 252; address < 256; address++) {
            VotedCore x = Asm.core(Asm.add(1, 0, address), Asm.store(0, 1, 1, 0), Asm.load(4, 3, 1, 0));
            x.run(3);
            Check.due("the byte at " + address, x.register(3), address);
        }
    }

    private static void illegal(int instruction) {
        stops("illegal " + instruction, Asm.core(instruction), 2, instruction);
    }

    private static void illegalOnes() {
        Check.sentence("Terms, an instruction", "2 ILLEGAL: it is none of those below: the value is the instruction");
        boolean[] known = new boolean[128];
        for (int op : new int[] {55, 23, 111, 103, 99, 3, 35, 19, 51, 15}) {
            known[op] = true;
        }
        for (int op = 0; op < 128; op++) {
            if (!known[op] && op != 115) {
                illegal(op);
                illegal(op | -1 << 7);
            }
        }
        for (int f = 1; f < 8; f++) {
            illegal(15 | f << 12);
            illegal(Asm.withI(103, f, 1, 0, 0));
        }
        illegal(Asm.branch(2, 0, 0, 8));
        illegal(Asm.branch(3, 0, 0, 8));
        for (int f : new int[] {3, 6, 7}) {
            illegal(Asm.load(f, 1, 0, 0));
        }
        for (int f = 3; f < 8; f++) {
            illegal(Asm.store(f, 1, 0, 0));
        }
        for (int g = 1; g < 128; g++) {
            illegal(Asm.shift(g, 1, 3, 1, 2));
            if (g != 32) {
                illegal(Asm.shift(g, 5, 3, 1, 2));
            }
            for (int f = 0; f < 8; f++) {
                if (g != 32 || f != 0 && f != 5) {
                    illegal(Asm.registers(g, f, 3, 1, 2));
                }
            }
        }
    }

    private static void callAndBreak() {
        Check.sentence("Terms, an instruction", "The instructions 115 (CALL) and 1048691 (BREAK): the value is 0");
        stops("CALL", Asm.core(115), 3, 0);
        stops("BREAK", Asm.core(1048691), 4, 0);
        for (int bit = 7; bit < 32; bit++) {
            // Bit 20 makes the one the other.
            if (bit != 20) {
                illegal(Asm.CALL ^ 1 << bit);
                illegal(Asm.BREAK ^ 1 << bit);
            }
        }
        illegal(114);
        illegal(116);
        illegal(2 << 20 | 115);
    }

    private static void check() {
        Check.sentence("Terms, an instruction", "5 CHECK: a word that is broken was to be read: the value is its number");
        for (int w = 0; w < 64; w++) {
            stops("instruction " + w, broken(at(w, Asm.NOP), w), 5, w);
            int codeAt = w == 5 ? 6 : 5;
            for (int f : LOADS) {
                stops("load " + f + " of word " + w, broken(with(at(codeAt, Asm.load(f, 1, 2, 0)), 2, 4 * w), w), 5, w);
            }
            for (int f = 0; f < 2; f++) {
                stops("store " + f + " to word " + w, broken(with(at(codeAt, Asm.store(f, 1, 2, 0)), 2, 4 * w), w), 5, w);
            }
            VotedCore x = broken(with(at(codeAt, Asm.store(2, 1, 2, 0)), 2, 4 * w), w);
            goes("a whole word is not read before it is saved: " + w, x, 1, 0, 4 * codeAt + 4);
        }
        stops("a load into register 0", broken(Asm.core(Asm.load(2, 0, 0, 40)), 10), 5, 10);
        for (int instruction : new int[] {Asm.load(2, 1, 0, 40), Asm.store(0, 1, 0, 40)}) {
            VotedCore x = broken(Asm.core(instruction), 10);
            x.run(1);
            Check.due("DETECTED is the scrubber's alone: " + instruction, x.count(1), 0);
        }
    }

    private static void aStopChangesNothing() {
        Check.sentence("Terms, an instruction", "changes neither registers nor the place nor a word then");
        VotedCore x = with(Asm.core(Asm.jump(5, 6)), 5, 77);
        x.run(1);
        Check.due("no way back is kept", x.register(5), 77);
        Check.due("the place", x.register(0), 0);
        x = with(Asm.core(Asm.jumpBy(6, 6, 0)), 6, 42);
        x.run(1);
        Check.due("nor by register", x.register(6), 42);
        x = broken(with(Asm.core(Asm.load(2, 5, 0, 40)), 5, 77), 10);
        x.run(1);
        Check.due("nothing is loaded", x.register(5), 77);
        x = broken(with(Asm.core(Asm.store(0, 5, 0, 40)), 5, 77), 10);
        x.run(1);
        Check.due("nothing is saved", x.bits(10), 3);
        x = with(Asm.core(Asm.store(1, 5, 0, 41)), 5, 77);
        x.run(1);
        Check.due("nothing is saved at a wrong address", x.bits(10), 0);
        x = with(Asm.core(Asm.NOP, Asm.CALL), 5, 77);
        x.run(2);
        Check.due("the place of the CALL", x.register(0), 4);
        x.resume(x.register(0));
        x.run(1);
        Check.due("the place of the CALL, again", x.register(0), 4);
    }

    private static void aStopKeepsCachesAndCorrections() {
        Check.sentence("Terms, an instruction", "(but caches, and wrong bits that were put right)");
        VotedCore x = Asm.core(Asm.load(2, 1, 0, 41));
        long good = x.bits(0);
        x.flip(0, 8);
        x.run(1);
        Check.due("it stopped", x.cause(), 1);
        Check.due("the instruction's word is put right", x.bits(0), good);
        Check.due("and counted", x.count(0), 1);
        Check.due("it is in its line", x.bits(160) & 0xFFFFFFFFL, Asm.load(2, 1, 0, 41));
        Check.due("no data was fetched", x.bits(166), 0);
        x = broken(Asm.core(Asm.load(2, 1, 0, 40)), 10);
        x.flip(166, 5);
        x.run(1);
        Check.due("it stopped with CHECK", x.cause(), 5);
        Check.due("the wrong line was dropped", x.bits(166), 0);
        Check.due("and counted", x.count(4), 1);
    }

    private static void theNextPlace() {
        Check.sentence("Terms, an instruction", "Then, if it did not stop, the place is the next one, p + 4, or the target.");
        VotedCore x = new VotedCore(64);
        for (int w = 0; w < 64; w++) {
            x.write(w, Asm.NOP);
        }
        for (int w = 0; w < 64; w++) {
            x.run(1);
            Check.due("behind word " + w, x.register(0), 4 * w + 4);
        }
        Check.due("it still runs", x.cause(), 0);
        stops("behind the last word", x, 1, 256);
    }

    private static void numbersWrap() {
        Check.sentence("Terms, an instruction", "Numbers are of 32 bits, and wrap.");
        gives("a + I", Asm.number(0, 3, 1, 1), MAX, 0, MIN);
        gives("a + I downward", Asm.number(0, 3, 1, -1), MIN, 0, MAX);
        gives("a + b", Asm.registers(0, 0, 3, 1, 2), MAX, MAX, -2);
        gives("a + b downward", Asm.registers(0, 0, 3, 1, 2), MIN, MIN, 0);
        gives("a - b", Asm.registers(32, 0, 3, 1, 2), MIN, 1, MAX);
        gives("0 - the least number", Asm.registers(32, 0, 3, 1, 2), 0, MIN, MIN);
        gives("p + U", Asm.upperFromPlace(3, 0xFFFFF000), 0, 0, -4092);
        stops("an address", with(Asm.core(Asm.load(0, 3, 1, 1)), 1, MAX), 1, MIN);
        VotedCore x = with(Asm.core(Asm.load(4, 3, 1, 1)), 1, -1);
        x.run(1);
        Check.due("an address that comes to 0", x.register(3), Asm.load(4, 3, 1, 1) & 255);
        x = with(Asm.core(Asm.store(2, 2, 1, 44)), 1, -4);
        x.set(2, 6);
        x.run(1);
        Check.due("an address that comes to 40", x.look(10), 6);
        goes("a target that comes to 0", with(at(3, Asm.jumpBy(1, 6, 1)), 6, -1), 1, 16, 0);
        goes("a target that comes to the least number", with(at(3, Asm.jumpBy(1, 6, 1)), 6, MAX), 1, 16, MIN);
        goes("p + K below 0", at(0, Asm.branch(0, 0, 0, -4096)), 1, 0, -4096);
        goes("p + L below 0", at(0, Asm.jump(1, -0x100000)), 1, 4, -0x100000);
    }

    private static void numberI() {
        Check.sentence("Terms, an instruction", "with the highest bit 31 as their sign: I bits 20 .. 31");
        gives("0", Asm.number(0, 3, 1, 0), 5, 0, 5);
        gives("the greatest", Asm.number(0, 3, 1, 2047), 5, 0, 2052);
        gives("the least", Asm.number(0, 3, 1, -2048), 5, 0, -2043);
        gives("-1", Asm.number(0, 3, 1, -1), 5, 0, 4);
        for (int bit = 0; bit < 11; bit++) {
            gives("bit " + bit, Asm.number(0, 3, 1, 1 << bit), 0, 0, 1 << bit);
        }
        for (int i : new int[] {2047, -2048}) {
            VotedCore x = with(Asm.core(Asm.load(2, 3, 1, i)), 1, 40 - i);
            x.write(10, 6);
            x.run(1);
            Check.due("a load with I " + i, x.register(3), 6);
            goes("a jump with I " + i, with(at(3, Asm.jumpBy(3, 1, i)), 1, 40 - i), 3, 16, 40);
        }
    }

    private static void numberJ() {
        Check.sentence("Terms, an instruction", "J bits 25 .. 31 and, below them, 7 .. 11");
        for (int j : new int[] {0, 2047, -2048, -1, 31, 32, -32, -33, 1024, 1, 2, 4, 8, 16, 64, 128, 256, 512}) {
            VotedCore x = with(Asm.core(Asm.store(2, 2, 1, j)), 1, 40 - j);
            x.set(2, 6);
            x.run(1);
            Check.due("stored with J " + j, x.look(10), 6);
        }
    }

    private static void numberK() {
        Check.sentence("Terms, an instruction", "K bit 31, 7, 30 .. 25, 11 .. 8 and a 0");
        for (int bit = 2; bit < 12; bit++) {
            goes("bit " + bit, at(1, Asm.branch(0, 0, 0, 1 << bit)), 1, 0, 4 + (1 << bit));
        }
        stops("bit 1", at(1, Asm.branch(0, 0, 0, 2)), 1, 6);
        goes("0", at(1, Asm.branch(0, 0, 0, 0)), 1, 0, 4);
        goes("the greatest", at(1, Asm.branch(0, 0, 0, 4092)), 1, 0, 4096);
        goes("the least", at(1, Asm.branch(0, 0, 0, -4096)), 1, 0, -4092);
        goes("-4", at(1, Asm.branch(0, 0, 0, -4)), 1, 0, 0);
    }

    private static void numberU() {
        Check.sentence("Terms, an instruction", "U bits 12 .. 31 and twelve zeros");
        for (int bit = 12; bit < 32; bit++) {
            gives("bit " + bit, Asm.upper(3, 1 << bit), 0, 0, 1 << bit);
            gives("bit " + bit + " from p", Asm.upperFromPlace(3, 1 << bit), 0, 0, (1 << bit) + 4);
        }
        gives("0", Asm.upper(3, 0), 0, 0, 0);
        gives("all bits", Asm.upper(3, -1), 0, 0, 0xFFFFF000);
    }

    private static void numberL() {
        Check.sentence("Terms, an instruction", "L bit 31, 19 .. 12, 20, 30 .. 21 and a 0 (from the highest on)");
        for (int bit = 2; bit < 20; bit++) {
            goes("bit " + bit, at(1, Asm.jump(1, 1 << bit)), 1, 8, 4 + (1 << bit));
        }
        stops("bit 1", at(1, Asm.jump(1, 2)), 1, 6);
        goes("0", at(1, Asm.jump(1, 0)), 1, 8, 4);
        goes("the greatest", at(2, Asm.jump(5, 0xFFFFC)), 5, 12, 0x100004);
        goes("the least", at(2, Asm.jump(5, -0x100000)), 5, 12, 8 - 0x100000);
        goes("-4", at(2, Asm.jump(5, -4)), 5, 12, 4);
    }

    private static void registerZeroGetsNothing() {
        Check.sentence("Terms, an instruction", "What register D gets stands first; as register 0 it gets nothing.");
        int[] intoRegister0 = {
            Asm.upper(0, 0x12345000), Asm.upperFromPlace(0, 0x12345000), Asm.add(0, 0, 99),
            Asm.registers(0, 0, 0, 1, 1), Asm.load(2, 0, 0, 0), Asm.shift(0, 1, 0, 1, 3), Asm.jump(0, 4),
            Asm.jumpBy(0, 0, 4)
        };
        for (int instruction : intoRegister0) {
            VotedCore x = with(Asm.core(instruction, Asm.add(3, 0, 0)), 1, 3);
            x.run(1);
            Check.due("it is the place: " + instruction, x.register(0), 4);
            x.run(1);
            Check.due("it is 0: " + instruction, x.register(3), 0);
        }
        for (int d = 1; d < 32; d++) {
            VotedCore x = Asm.core(Asm.add(d, 0, 99));
            x.run(1);
            for (int r = 1; r < 32; r++) {
                Check.due("D " + d + ", register " + r, x.register(r), r == d ? 99 : 0);
            }
            for (int c = 0; c < 3; c++) {
                Check.due("D " + d + ", copy " + c, x.bits(64 + 3 * d + c), 99);
            }
        }
    }

    private static void uppers() {
        Check.sentence("Terms, an instruction", "OP 55: U. 23: p + U.");
        gives("U", Asm.upper(3, 0x12345000), 0, 0, 0x12345000);
        gives("p + U", Asm.upperFromPlace(3, 0x12345000), 0, 0, 0x12345004);
        gives("p + U, highest bit", Asm.upperFromPlace(3, 0x80000000), 0, 0, 0x80000004);
        goes("p + U at the last word", at(63, Asm.upperFromPlace(3, 4096)), 3, 4096 + 252, 256);
    }

    private static void jumps() {
        Check.sentence("Terms, an instruction", "111: p + 4; the target is p + L.");
        goes("on", at(2, Asm.jump(5, 40)), 5, 12, 48);
        goes("back", at(20, Asm.jump(31, -80)), 31, 84, 0);
        goes("without a register", at(2, Asm.jump(0, 8)), 0, 16, 16);
        goes("from the last word", at(63, Asm.jump(1, -252)), 1, 256, 0);
    }

    private static void jumpsByRegister() {
        Check.sentence("Terms, an instruction", "103, F 0: p + 4; the target is a + I with bit 0 made 0.");
        goes("bit 0 is made 0", with(at(3, Asm.jumpBy(5, 6, -4)), 6, 105), 5, 16, 100);
        goes("bit 0 of the sum", with(at(3, Asm.jumpBy(5, 6, 1)), 6, 99), 5, 16, 100);
        goes("bit 0 of I", with(at(3, Asm.jumpBy(5, 6, 1)), 6, 100), 5, 16, 100);
        goes("D may be S", with(at(3, Asm.jumpBy(6, 6, 8)), 6, 40), 6, 16, 48);
        goes("below 0", at(3, Asm.jumpBy(1, 6, -2048)), 1, 16, -2048);
        goes("from register 0", at(3, Asm.jumpBy(1, 0, 20)), 1, 16, 20);
    }

    private static void branches() {
        Check.sentence("Terms, an instruction", "99: the target is p + K if, for F 0: a is b, 1: it isn't, 4: a is less than b, 5: it isn't less, 6, 7: the same without signs.");
        int[] values = {0, 1, -1, MIN, MIN + 1, MAX, 7};
        for (int a : values) {
            for (int b : values) {
                branch(0, a, b, a == b);
                branch(1, a, b, a != b);
                branch(4, a, b, a < b);
                branch(5, a, b, a >= b);
                branch(6, a, b, (a & 0xFFFFFFFFL) < (b & 0xFFFFFFFFL));
                branch(7, a, b, (a & 0xFFFFFFFFL) >= (b & 0xFFFFFFFFL));
            }
        }
    }

    private static void branch(int f, int a, int b, boolean taken) {
        VotedCore x = with(at(4, Asm.branch(f, 1, 2, 64)), 1, a);
        x.set(2, b);
        x.run(1);
        Check.due("branch " + f + " of " + a + " and " + b, x.register(0), taken ? 80 : 20);
    }

    private static void loads() {
        Check.sentence("Terms, an instruction", "3: what is at the address a + I, fetched through cache 1: F 0: the byte, with its sign; 1: the half, likewise; 2: the word; 4, 5: byte and half without signs.");
        int[] bytes = {0x84, 0x73, 0xF2, 0x81};
        for (int i = 0; i < 4; i++) {
            loads(0, i, 0x81F27384, (byte) bytes[i]);
            loads(4, i, 0x81F27384, bytes[i]);
            loads(0, i, 0x7F << 8 * i, 127);
            loads(0, i, 0x80 << 8 * i, -128);
            loads(0, i, 0xFF << 8 * i, -1);
            loads(4, i, 0x80 << 8 * i, 128);
            loads(4, i, 0xFF << 8 * i, 255);
        }
        for (int i = 0; i < 4; i += 2) {
            loads(1, i, 0x7FFF << 8 * i, 32767);
            loads(1, i, 0x8000 << 8 * i, -32768);
            loads(1, i, 0xFFFF << 8 * i, -1);
            loads(5, i, 0x8000 << 8 * i, 32768);
            loads(5, i, 0xFFFF << 8 * i, 65535);
        }
        loads(1, 0, 0x81F27384, 0x7384);
        loads(5, 0, 0x81F27384, 0x7384);
        loads(1, 0, 0x7FFF8000, -32768);
        loads(5, 0, 0x7FFF8000, 32768);
        loads(1, 2, 0x81F27384, 0xFFFF81F2);
        loads(5, 2, 0x81F27384, 0x81F2);
        for (int value : new int[] {0, 1, -1, MIN, MAX, 0x81F27384}) {
            loads(2, 0, value, value);
        }
    }

    private static void loads(int f, int offset, int word, int want) {
        VotedCore x = with(Asm.core(Asm.load(f, 3, 1, -20 + offset)), 1, 272);
        x.write(63, word);
        x.run(1);
        Check.due("load " + f + " of byte " + offset + " of " + word, x.register(3), want);
        Check.due("load " + f + " of byte " + offset + ": place", x.register(0), 4);
        Check.due("load " + f + " of byte " + offset + ": the line", x.bits(167) & 0xFFFFFFFFL, word & 0xFFFFFFFFL);
    }

    private static void stores() {
        Check.sentence("Terms, an instruction", "35: at the address a + J: F 0: the lowest byte of b, 1: its lower half, 2: b, is saved");
        for (int i = 0; i < 4; i++) {
            stores(0, i, 0x11223344 & ~(0xFF << 8 * i) | 0xDD << 8 * i);
        }
        stores(1, 0, 0x1122CCDD);
        stores(1, 2, 0xCCDD3344);
        stores(2, 0, 0xAABBCCDD);
    }

    private static void stores(int f, int offset, int want) {
        VotedCore x = with(Asm.core(Asm.store(f, 2, 1, -52 + offset)), 1, 304);
        x.write(63, 0x11223344);
        x.set(2, 0xAABBCCDD);
        x.run(1);
        Check.due("store " + f + " to byte " + offset, x.look(63), want & 0xFFFFFFFFL);
        Check.due("store " + f + " to byte " + offset + ": place", x.register(0), 4);
        Check.due("no register gets anything", x.register((-52 + offset) & 31), 0);
    }

    private static void storesOfBytesAndHalvesFetch() {
        Check.sentence("Terms, an instruction", "(for 0 and 1 the word is fetched through cache 1 before, and the other bytes stay)");
        for (int f = 0; f < 2; f++) {
            VotedCore x = with(Asm.core(Asm.store(f, 5, 0, 42)), 5, 0xAABBCCDD);
            x.write(10, 0x11223344);
            x.flip(10, 6);
            x.run(1);
            long want = f == 0 ? 0x11DD3344L : 0xCCDD3344L;
            Check.due("the word, F " + f, x.look(10), want);
            Check.due("its wrong bit was put right, F " + f, x.count(0), 1);
            Check.due("the line has it, F " + f, x.bits(166) & 0xFFFFFFFFL, want);
            x = broken(Asm.core(Asm.load(2, 1, 0, 40), Asm.store(f, 5, 0, 42)), 12);
            x.write(10, 0x11223344);
            x.run(1);
            broken(x, 10);
            x.run(1);
            Check.due("a full line is used, F " + f, x.look(10), f == 0 ? 0x11003344L : 0x00003344L);
            x = Asm.core(Asm.store(f, 5, 0, 42));
            x.flip(166, 37);
            x.run(1);
            Check.due("a wrong line is dropped once, F " + f, x.count(4), 1);
            Check.due("and filled, F " + f, x.bits(166) >> 36 & 1, 1);
        }
        VotedCore x = with(Asm.core(Asm.store(2, 5, 0, 40)), 5, 6);
        x.flip(10, 6);
        x.run(1);
        Check.due("for 2 it is not: no bit is put right", x.count(0), 0);
        Check.due("and no line is filled", x.bits(166), 0);
    }

    private static void computingWithNumbers() {
        Check.sentence("Terms, an instruction", "19: F 0: a + I; 2: 1 if a is less than I, else 0; 3: the same without signs; 4: a xor I; 6: a or I; 7: a and I");
        gives("a + I", Asm.number(0, 3, 1, 100), 5, 0, 105);
        gives("less", Asm.number(2, 3, 1, -1), -2, 0, 1);
        gives("equal", Asm.number(2, 3, 1, -2), -2, 0, 0);
        gives("greater", Asm.number(2, 3, 1, -1), 3, 0, 0);
        gives("the least number is less", Asm.number(2, 3, 1, -2048), MIN, 0, 1);
        gives("the greatest is not", Asm.number(2, 3, 1, 2047), MAX, 0, 0);
        gives("less without signs", Asm.number(3, 3, 1, -1), 3, 0, 1);
        gives("greater without signs", Asm.number(3, 3, 1, 3), -1, 0, 0);
        gives("equal without signs", Asm.number(3, 3, 1, 3), 3, 0, 0);
        gives("equal to all bits", Asm.number(3, 3, 1, -1), -1, 0, 0);
        gives("0 is less than 1", Asm.number(3, 3, 1, 1), 0, 0, 1);
        gives("xor", Asm.number(4, 3, 1, -1), 0x0F0F0F0F, 0, 0xF0F0F0F0);
        gives("or", Asm.number(6, 3, 1, 0x70F), 0x0F0F0F0F, 0, 0x0F0F0F0F);
        gives("or with a sign", Asm.number(6, 3, 1, -256), 1, 0, -255);
        gives("and", Asm.number(7, 3, 1, -16), 0x0F0F0F0F, 0, 0x0F0F0F00);
        gives("and with the greatest", Asm.number(7, 3, 1, 2047), -1, 0, 2047);
    }

    private static void shiftsByT() {
        Check.sentence("Terms, an instruction", "1, G 0: a with T zeros shifted in from below; 5, G 0 or 32: a shifted down by T (the number T itself), with zeros, or with copies of its sign");
        for (int t = 0; t < 32; t++) {
            gives("up by " + t, Asm.shift(0, 1, 3, 1, t), 0x87654321, 0, (int) (0x87654321L * (1L << t)));
            gives("down by " + t, Asm.shift(0, 5, 3, 1, t), 0x87654321, 0, (int) (0x87654321L / (1L << t)));
            gives("down with its sign by " + t, Asm.shift(32, 5, 3, 1, t), 0x87654321, 0, (int) (0xFFFFFFFF87654321L >> t));
            gives("down with no sign to copy by " + t, Asm.shift(32, 5, 3, 1, t), 0x47654321, 0, (int) (0x47654321L >> t));
        }
        gives("T is the number, not the register", Asm.shift(0, 1, 3, 1, 2), 1, 9, 4);
    }

    private static void computingWithRegisters() {
        Check.sentence("Terms, an instruction", "51, G 0: F 0: a + b; 2, 3: a less than b, as above; 4: a xor b; 6: a or b; 7: a and b; G 32: F 0: a - b");
        gives("a + b", Asm.registers(0, 0, 3, 1, 2), 40, 2, 42);
        gives("a - b", Asm.registers(32, 0, 3, 1, 2), 40, 42, -2);
        gives("less", Asm.registers(0, 2, 3, 1, 2), MIN, MAX, 1);
        gives("equal", Asm.registers(0, 2, 3, 1, 2), MIN, MIN, 0);
        gives("greater", Asm.registers(0, 2, 3, 1, 2), 1, -1, 0);
        gives("less without signs", Asm.registers(0, 3, 3, 1, 2), MAX, MIN, 1);
        gives("greater without signs", Asm.registers(0, 3, 3, 1, 2), -1, 1, 0);
        gives("equal without signs", Asm.registers(0, 3, 3, 1, 2), -1, -1, 0);
        gives("xor", Asm.registers(0, 4, 3, 1, 2), 0b1100, 0b1010, 0b0110);
        gives("or", Asm.registers(0, 6, 3, 1, 2), 0b1100, 0b1010, 0b1110);
        gives("and", Asm.registers(0, 7, 3, 1, 2), 0b1100, 0b1010, 0b1000);
        gives("T 0", Asm.registers(0, 0, 3, 1, 0), 40, 0, 40);
        gives("S 0", Asm.registers(0, 0, 3, 0, 2), 0, 41, 41);
        gives("D may be S and T", Asm.registers(0, 0, 3, 3, 3), 0, 0, 24690);
        VotedCore x = with(Asm.core(Asm.registers(0, 0, 3, 31, 30)), 31, 5);
        x.set(30, 6);
        x.run(1);
        Check.due("the last registers", x.register(3), 11);
    }

    private static void shiftsByRegister() {
        Check.sentence("Terms, an instruction", "1: a shifted as above by the lowest five bits of b; 5: shifted down, with zeros; G 32: 5: shifted down with its sign");
        for (int b : new int[] {0, 1, 31, 32, 33, 63, 64, -1, -32, MIN, MAX}) {
            int by = b & 31;
            gives("up by " + b, Asm.registers(0, 1, 3, 1, 2), 0x87654321, b, (int) (0x87654321L * (1L << by)));
            gives("down by " + b, Asm.registers(0, 5, 3, 1, 2), 0x87654321, b, (int) (0x87654321L / (1L << by)));
            gives("down with its sign by " + b, Asm.registers(32, 5, 3, 1, 2), 0x87654321, b, (int) (0xFFFFFFFF87654321L >> by));
        }
    }

    private static void nothing() {
        Check.sentence("Terms, an instruction", "15, F 0: nothing.");
        gives("nothing", 15, 0, 0, 12345);
        gives("nothing, with other fields", 15 | 3 << 7 | 1 << 15 | 2 << 20 | 127 << 25, 1, 1, 12345);
    }

    private static void thoseWithoutAResult() {
        Check.sentence("Terms, an instruction", "What register D gets stands first (a branch, a store and nothing have none)");
        int[] instructions = {
            Asm.branch(0, 0, 0, 20), Asm.branch(1, 0, 0, 20), Asm.branch(0, 0, 0, 12), Asm.store(0, 3, 0, 41),
            Asm.store(1, 3, 0, 42), Asm.store(2, 3, 0, 44), 15 | 3 << 7
        };
        for (int instruction : instructions) {
            VotedCore x = Asm.core(instruction);
            for (int r = 1; r < 32; r++) {
                x.set(r, 7000 + r);
            }
            x.run(1);
            Check.due(instruction + ": cause", x.cause(), 0);
            for (int r = 1; r < 32; r++) {
                Check.due(instruction + ": register " + r, x.register(r), 7000 + r);
            }
        }
    }

    private static void orderOfTests() {
        Check.sentence("Terms, an instruction", "The order of tests: the place, CHECK of the instruction, ILLEGAL, then addresses, then CHECK of data.");
        stops("the place before CHECK", with(broken(Asm.core(-1), 0), 0, 2), 1, 2);
        stops("CHECK before ILLEGAL", broken(Asm.core(-1), 0), 5, 0);
        stops("CHECK before addresses", broken(Asm.core(Asm.load(2, 1, 0, 41)), 0), 5, 0);
        for (int address : new int[] {1, 257, -1}) {
            int load = Asm.load(3, 1, 0, address);
            stops("ILLEGAL before addresses, load at " + address, Asm.core(load), 2, load);
            int store = Asm.store(3, 1, 0, address);
            stops("ILLEGAL before addresses, store at " + address, Asm.core(store), 2, store);
        }
        int jump = Asm.withI(103, 1, 1, 0, 2);
        stops("ILLEGAL before the target, jump", Asm.core(jump), 2, jump);
        int branch = Asm.branch(2, 0, 0, 6);
        stops("ILLEGAL before the target, branch", Asm.core(branch), 2, branch);
        int load = Asm.load(7, 1, 0, 40);
        stops("ILLEGAL before CHECK of data", broken(Asm.core(load), 10), 2, load);
        stops("addresses before CHECK of data, word", broken(Asm.core(Asm.load(2, 1, 0, 41)), 10), 1, 41);
        stops("addresses before CHECK of data, half", broken(Asm.core(Asm.load(5, 1, 0, 43)), 10), 1, 43);
        stops("addresses before CHECK of data, store", broken(Asm.core(Asm.store(1, 1, 0, 41)), 10), 1, 41);
    }
}
