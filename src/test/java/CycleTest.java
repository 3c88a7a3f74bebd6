/** Terms, REGISTERS and A CYCLE: copies, and the four steps of a cycle. */
public final class CycleTest {
    public static void main(String[] args) {
        whatTwoCopiesSay();
        numberZeroIsZero();
        onlyWhileItRuns();
        faultsAreMadeFirst();
        copiesGetTheValue();
        votedGrows();
        oneInstruction();
        everyCycle();
        scrubberPutsRight();
        scrubberDetects();
        behindTheLastWord();
        scrubberAfterAStop();
        Check.end();
    }

    private static VotedCore looping(int every) {
        VotedCore x = new VotedCore(every);
        x.write(0, Asm.jump(0, 0));
        return x;
    }

    private static void whatTwoCopiesSay() {
        Check.sentence("Terms, registers", "The value is, bit by bit, what two copies at least say.");
        for (int r = 0; r < 32; r++) {
            for (int says = 0; says < 8; says++) {
                VotedCore x = new VotedCore(1);
                for (int c = 0; c < 3; c++) {
                    if ((says >> c & 1) == 1) {
                        x.flip(64 + 3 * r + c, 31);
                        x.flip(64 + 3 * r + c, r % 31);
                    }
                }
                int all = 1 << 31 | 1 << r % 31;
                Check.due("register " + r + ", copies " + says, x.register(r), Integer.bitCount(says) >= 2 ? all : 0);
            }
        }
        VotedCore x = new VotedCore(1);
        x.set(9, -1);
        x.flip(64 + 27, 0);
        x.flip(64 + 28, 15);
        x.flip(64 + 29, 31);
        Check.due("another bit of each copy", x.register(9), -1);
    }

    private static void numberZeroIsZero() {
        Check.sentence("Terms, registers", "As an instruction's number 0 the register is always 0.");
        VotedCore x = new VotedCore(64);
        x.write(10, Asm.registers(0, 0, 1, 0, 0));
        x.write(11, Asm.add(2, 0, 0));
        x.write(12, Asm.store(2, 0, 0, 200));
        x.write(13, Asm.branch(0, 0, 3, 12));
        x.write(14, Asm.CALL);
        x.write(16, Asm.jumpBy(4, 0, 0));
        x.write(50, 5);
        x.set(0, 40);
        x.set(1, 77);
        x.set(2, 77);
        x.run(3);
        Check.due("S and T", x.register(1), 0);
        Check.due("S", x.register(2), 0);
        Check.due("a word saved from T", x.look(50), 0);
        x.run(2);
        Check.due("a branch and a jump", x.register(0), 0);
    }

    private static void onlyWhileItRuns() {
        Check.sentence("Terms, a cycle", "A CYCLE, which is done only while the computer RUNS");
        VotedCore x = Whole.busy(true);
        Check.due("it stopped", x.cause(), 3);
        Whole before = Whole.of(x);
        Check.due("no cycle", x.run(500), 0);
        before.stays("no fault, no vote, no instruction, no scrubber", x);
    }

    private static void faultsAreMadeFirst() {
        Check.sentence("Terms, a cycle", "1. The planned faults for it are made, in the order in which they were planned.");
        VotedCore x = Asm.core(Asm.add(2, 1, 0), Asm.add(3, 1, 0), Asm.NOP);
        x.set(1, 1);
        x.plan(1, 67, 0);
        x.run(1);
        Check.due("before the vote", x.bits(67), 1);
        Check.due("which sees them", x.count(2), 1);
        Check.due("the instruction finds the value", x.register(2), 1);
        x.plan(1, 67, 0);
        x.plan(1, 69, 0);
        x.run(1);
        Check.due("two wrong copies are the value", x.bits(68), 0);
        Check.due("which the instruction finds", x.register(3), 0);
        // Bit 26 of the word is bit 20 of its value: 1 is added instead of 0, if it is not put right.
        x = Asm.core(Asm.add(2, 1, 0), Asm.NOP);
        x.plan(1, 0, 26);
        x.run(1);
        Check.due("before the word is read", x.count(0), 1);
        Check.due("and put right", x.register(2), 0);
        x = Asm.core(Asm.CALL);
        x.plan(1, 0, 3);
        x.plan(1, 0, 5);
        x.run(1);
        Check.due("a word that they broke is not done", x.cause(), 5);
        x = Asm.core(Asm.CALL);
        x.plan(1, 40, 3);
        x.run(1);
        Check.due("in the stopping cycle too", x.bits(40), 8);
        x = looping(1);
        x.plan(1, 0, 38);
        x.plan(2, 1, 38);
        x.run(2);
        Check.due("before the scrubber comes", x.bits(1), 0);
        Check.due("who puts one right and finds the other good", x.count(0), 2);
    }

    private static void copiesGetTheValue() {
        Check.sentence("Terms, a cycle", "2. VOTE: for each register, all copies get the value");
        VotedCore x = looping(64);
        for (int r = 0; r < 32; r++) {
            x.flip(64 + 3 * r + r % 3, 31 - r);
        }
        x.run(1);
        for (int part = 64; part < 160; part++) {
            Check.due("part " + part, x.bits(part), 0);
        }
        for (int c = 0; c < 3; c++) {
            x.flip(64 + 3 * 6 + c, c);
        }
        x.flip(64 + 3 * 6, 1);
        x.run(1);
        for (int c = 0; c < 3; c++) {
            Check.due("copy " + c + " of three that differ", x.bits(64 + 3 * 6 + c), 2);
        }
        x = Asm.core(Asm.NOP, Asm.NOP);
        x.flip(65, 2);
        x.run(1);
        Check.due("the place is voted on before it is used", x.register(0), 4);
    }

    private static void votedGrows() {
        Check.sentence("Terms, a cycle", "for each of which the copies were not all equal VOTED grows by 1");
        for (int r = 0; r < 32; r++) {
            for (int c = 0; c < 3; c++) {
                VotedCore x = looping(64);
                x.flip(64 + 3 * r + c, r);
                x.run(1);
                Check.due("copy " + c + " of " + r, x.count(2), 1);
                x.run(1);
                Check.due("equal again", x.count(2), 1);
            }
        }
        VotedCore x = looping(64);
        x.run(1);
        Check.due("none", x.count(2), 0);
        for (int r = 0; r < 32; r++) {
            x.flip(65 + 3 * r, 0);
        }
        x.run(1);
        Check.due("all of them", x.count(2), 32);
        for (int c = 0; c < 3; c++) {
            x.flip(64 + 3 * 5 + c, 3);
        }
        x.run(1);
        Check.due("three equal copies, though wrong", x.count(2), 32);
        Check.due("which stay", x.register(5), 8);
        for (int c = 0; c < 3; c++) {
            x.flip(64 + 3 * 6 + c, c);
        }
        x.run(1);
        Check.due("three that differ count once", x.count(2), 33);
    }

    private static void oneInstruction() {
        Check.sentence("Terms, a cycle", "3. An instruction is done.");
        VotedCore x = Asm.core(Asm.add(1, 1, 1), Asm.add(1, 1, 2), Asm.add(1, 1, 4));
        int[] due = {1, 3, 7};
        for (int i = 0; i < 3; i++) {
            x.run(1);
            Check.due("cycle " + (i + 1), x.register(1), due[i]);
            Check.due("the place after cycle " + (i + 1), x.register(0), 4 * i + 4);
        }
    }

    private static void everyCycle() {
        Check.sentence("Terms, a cycle", "4. SCRUB: if the number of this cycle (1 for the first one) is divided by EVERY");
        for (int every = 1; every <= 64; every++) {
            VotedCore x = looping(every);
            for (int cycle = 1; cycle <= 2 * every + 1; cycle++) {
                x.run(1);
                Check.due("every " + every + ", cycle " + cycle, x.count(5), cycle / every);
            }
        }
    }

    private static void scrubberPutsRight() {
        Check.sentence("Terms, a cycle", "the word at the scrubber's place (0 at first) is looked at; a wrong bit is put right (CORRECTED grows by 1)");
        VotedCore x = looping(1);
        x.run(1);
        Check.due("a good word", x.count(0), 0);
        for (int w = 1; w < 64; w++) {
            x.flip(w, w % 39);
        }
        for (int w = 1; w < 64; w++) {
            Check.due("before its turn: " + w, x.bits(w), 1L << w % 39);
            x.run(1);
            Check.due("after its turn: " + w, x.bits(w), 0);
            Check.due("corrected: " + w, x.count(0), w);
        }
        Check.due("none was broken", x.count(1), 0);
        for (int line = 161; line < 168; line++) {
            Check.due("no line is filled by it: " + line, x.bits(line), 0);
        }
        x = new VotedCore(1);
        x.write(10, Asm.jump(0, 0));
        x.set(0, 40);
        x.flip(0, 38);
        x.run(1);
        Check.due("word 0 at first", x.bits(0), 0);
        Check.due("is counted", x.count(0), 1);
    }

    private static void scrubberDetects() {
        Check.sentence("Terms, a cycle", "for a broken one DETECTED grows by 1");
        VotedCore x = looping(1);
        x.flip(2, 7);
        x.flip(2, 30);
        x.flip(63, 0);
        x.flip(63, 38);
        x.flip(3, 9);
        x.run(2);
        Check.due("not yet", x.count(1), 0);
        x.run(1);
        Check.due("word 2", x.count(1), 1);
        Check.due("its bits stay", x.bits(2), 1L << 7 | 1L << 30);
        Check.due("it is not corrected", x.count(0), 0);
        x.run(1);
        Check.due("a wrong bit is not detected", x.count(1), 1);
        x.run(60);
        Check.due("the last word", x.count(1), 2);
        x.run(64);
        Check.due("both again", x.count(1), 4);
        Check.due("it never stops for that", x.cause(), 0);
    }

    private static void behindTheLastWord() {
        Check.sentence("Terms, a cycle", "then the place is the next one, behind 63 it is 0");
        VotedCore x = looping(1);
        for (int cycle = 1; cycle <= 200; cycle++) {
            x.run(1);
            Check.due("after cycle " + cycle, x.count(5), cycle % 64);
        }
        x = looping(64);
        for (int i = 0; i < 8; i++) {
            x.run(500);
        }
        x.run(95);
        Check.due("before the last word, every 64", x.count(5), 63);
        x.run(1);
        Check.due("behind it, every 64", x.count(5), 0);
    }

    private static void scrubberAfterAStop() {
        Check.sentence("Terms, a cycle", "(This is done also when the computer stopped in step 3.)");
        VotedCore x = new VotedCore(1);
        x.flip(0, 1);
        x.flip(0, 2);
        Check.due("a broken instruction stops it", x.run(5), 1);
        Check.due("with CHECK", x.cause(), 5);
        Check.due("reading it detects nothing, scrubbing it does", x.count(1), 1);
        Check.due("the scrubber's place went on", x.count(5), 1);
        x.run(5);
        Check.due("but not while stopped", x.count(5), 1);
        int[] stopping = {Asm.jumpBy(0, 0, 2), 0, Asm.CALL, Asm.BREAK, Asm.load(2, 1, 0, 80)};
        for (int cause = 1; cause <= 5; cause++) {
            VotedCore y = new VotedCore(1);
            y.write(10, stopping[cause - 1]);
            y.flip(20, 0);
            y.flip(20, 1);
            y.flip(0, 5);
            y.set(0, 40);
            y.run(1);
            Check.due("stopped with " + cause, y.cause(), cause);
            Check.due("the word was put right all the same, " + cause, y.bits(0), 0);
            Check.due("and counted, " + cause, y.count(0), 1);
        }
        VotedCore z = new VotedCore(3);
        z.run(1);
        z.resume(0);
        z.run(1);
        Check.due("two cycles of three", z.count(5), 0);
        z.resume(0);
        z.run(1);
        Check.due("the third, though each stopped", z.count(5), 1);
    }
}
