/** Promises 1 to 7 and the parts: a new object, and the calls that read and change what is stored. */
public final class StateTest {
    private static final int PARTS = 168;
    private static final int MIN = Integer.MIN_VALUE;
    private static final int MAX = Integer.MAX_VALUE;

    public static void main(String[] args) {
        everyIsTheNearestNumber();
        allIsZero();
        itRuns();
        noCycleWasDone();
        writtenRunningOrStopped();
        allLinesAreDropped();
        noWordToWrite();
        allCopiesAreSet();
        thePlaceIsSet();
        noRegisterToSet();
        registerTells();
        noRegisterToTell();
        lookTells();
        lookPutsNothingRight();
        lookAtABrokenWord();
        noWordToLookAt();
        partsAndTheirNumbers();
        bitsTell();
        noPartToTell();
        flipNow();
        noPartToFlip();
        noBitToFlip();
        Check.end();
    }

    private static void everyIsTheNearestNumber() {
        Check.sentence("Promise 1", "EVERY is the nearest number of 1 .. 64.");
        everyIs(MIN, 1);
        everyIs(-64, 1);
        everyIs(-1, 1);
        everyIs(0, 1);
        everyIs(1, 1);
        everyIs(2, 2);
        everyIs(63, 63);
        everyIs(64, 64);
        everyIs(65, 64);
        everyIs(128, 64);
        everyIs(MAX, 64);
    }

    private static void everyIs(int asked, int every) {
        VotedCore x = new VotedCore(asked);
        x.write(0, Asm.jump(0, 0));
        x.run(every - 1);
        Check.due("every " + asked + ": the scrubber waits", x.count(5), 0);
        x.run(1);
        Check.due("every " + asked + ": the scrubber came", x.count(5), 1);
        x.run(every - 1);
        Check.due("every " + asked + ": the scrubber waits again", x.count(5), 1);
        x.run(1);
        Check.due("every " + asked + ": the scrubber came again", x.count(5), 2);
    }

    private static void allIsZero() {
        Check.sentence("Promise 1", "All words, registers and lines are 0 (words and lines with their due bits)");
        VotedCore x = new VotedCore(4);
        for (int part = 0; part < PARTS; part++) {
            Check.due("bits " + part, x.bits(part), 0);
        }
        for (int w = 0; w < 64; w++) {
            Check.due("look " + w, x.look(w), 0);
        }
        for (int r = 0; r < 32; r++) {
            Check.due("register " + r, x.register(r), 0);
        }
    }

    private static void itRuns() {
        Check.sentence("Promise 1", "it runs");
        VotedCore x = new VotedCore(4);
        Check.due("cause", x.cause(), 0);
        Check.due("value", x.value(), 0);
        Check.due("no resume", x.resume(0), false);
        Check.due("a cycle is done", x.run(1), 1);
    }

    private static void noCycleWasDone() {
        Check.sentence("Promise 1", "no cycle was done");
        VotedCore x = new VotedCore(4);
        Check.due("cycles", x.cycles(), 0);
        Check.due("planned", x.planned(), 0);
        for (int what = 0; what < 6; what++) {
            Check.due("count " + what, x.count(what), 0);
        }
        VotedCore other = new VotedCore(1);
        other.write(0, Asm.jump(0, 0));
        other.plan(500, 1, 1);
        other.run(9);
        Check.due("another object's cycles are its own", x.cycles() + x.planned() + x.count(5), 0);
    }

    private static void writtenRunningOrStopped() {
        Check.sentence("Promise 2", "Word w is written (running or stopped)");
        for (int w = 0; w < 64; w++) {
            VotedCore x = new VotedCore(1);
            Whole before = Whole.of(x);
            Check.due("write " + w, x.write(w, -w - 1), true);
            Check.due("look " + w, x.look(w), 4294967295L - w);
            before.staysBut("write " + w, x, w, w);
        }
        VotedCore x = Asm.core(Asm.CALL);
        x.run(1);
        Check.due("write while stopped", x.write(6, 1), true);
        Check.due("look at it", x.look(6), 1);
        Check.due("it is still stopped", x.cause(), 3);
        Check.due("at its place", x.register(0), 0);
    }

    private static void allLinesAreDropped() {
        Check.sentence("Promise 2", "and all lines are dropped");
        VotedCore x = new VotedCore(64);
        for (int w = 0; w < 4; w++) {
            x.write(w, Asm.load(2, 1, 0, 4 * w + 80));
        }
        x.run(4);
        for (int part = 160; part < PARTS; part++) {
            Check.due("full before: " + part, x.bits(part) >> 36 & 1, 1);
        }
        x.write(63, 9);
        for (int part = 160; part < PARTS; part++) {
            Check.due("dropped: " + part, x.bits(part), 0);
        }
        x.flip(162, 3);
        x.flip(166, 3);
        x.write(2, 0);
        Check.due("wrong lines are dropped too", x.bits(162) + x.bits(166), 0);
        Check.due("which is no refetch", x.count(3) + x.count(4), 0);
        x = Asm.core(Asm.load(2, 1, 0, 40), Asm.CALL);
        x.run(2);
        x.write(1, Asm.CALL);
        Check.due("while stopped too", x.bits(160) + x.bits(161) + x.bits(166), 0);
        x = Asm.core(Asm.jump(0, 0));
        x.run(1);
        x.write(0, Asm.BREAK);
        x.run(1);
        Check.due("the new instruction is done", x.cause(), 4);
    }

    private static void noWordToWrite() {
        Check.sentence("Promise 2", "false when there is no such word");
        for (int i = 0; i < 2; i++) {
            VotedCore x = Whole.busy(i == 1);
            Whole before = Whole.of(x);
            for (int w : new int[] {-1, 64, -64, 65, 100, 256, MIN, MAX}) {
                Check.due("write " + w, x.write(w, 7), false);
            }
            before.stays("no write", x);
        }
    }

    private static void allCopiesAreSet() {
        Check.sentence("Promise 3", "All copies of register r (0: the place, any value) get a value");
        for (int r = 0; r < 32; r++) {
            VotedCore x = new VotedCore(1);
            Check.due("set " + r, x.set(r, -1000 - r), true);
            for (int part = 0; part < PARTS; part++) {
                boolean isCopy = part >= 64 + 3 * r && part < 67 + 3 * r;
                Check.due("part " + part, x.bits(part), isCopy ? 4294966296L - r : 0);
            }
        }
        VotedCore x = new VotedCore(64);
        x.flip(67, 1);
        x.set(1, 12);
        x.run(1);
        Check.due("a wrong copy is overwritten", x.bits(67), 12);
        Check.due("no vote was needed", x.count(2), 0);
    }

    private static void thePlaceIsSet() {
        Check.sentence("Promise 3", "(0: the place, any value)");
        for (int place : new int[] {0, 1, 2, 252, 255, 256, -1, -4, MIN, MAX}) {
            VotedCore x = new VotedCore(1);
            Check.due("set 0, " + place, x.set(0, place), true);
            Check.due("the place", x.register(0), place);
            x.run(1);
            boolean fine = place == 0 || place == 252;
            Check.due("cause at " + place, x.cause(), fine ? 2 : 1);
            Check.due("value at " + place, x.value(), fine ? 0 : place);
            Check.due("set while stopped", x.set(0, 8), true);
            Check.due("the place is set", x.register(0), 8);
            Check.due("it is still stopped", x.cause(), fine ? 2 : 1);
        }
    }

    private static void noRegisterToSet() {
        Check.sentence("Promise 3", "false when r is not 0 .. 31");
        for (int i = 0; i < 2; i++) {
            VotedCore x = Whole.busy(i == 1);
            Whole before = Whole.of(x);
            for (int r : new int[] {-1, 32, -32, 33, 64, 96, MIN, MAX}) {
                Check.due("set " + r, x.set(r, 1), false);
            }
            before.stays("no set", x);
            Check.due("set 31", x.set(31, 5), true);
            Check.due("set 0", x.set(0, 5), true);
        }
    }

    private static void registerTells() {
        Check.sentence("Promise 4", "The value of register r (0: the place), what two copies say");
        VotedCore x = new VotedCore(1);
        x.set(9, 0x0F0F0F0F);
        x.flip(64 + 27, 31);
        Check.due("one wrong copy", x.register(9), 0x0F0F0F0F);
        x.flip(64 + 28, 4);
        Check.due("another bit of the second copy", x.register(9), 0x0F0F0F0F);
        x.flip(64 + 29, 31);
        Check.due("two copies say otherwise of bit 31", x.register(9), 0x8F0F0F0F);
        x.flip(64 + 29, 4);
        Check.due("two copies say otherwise of bit 4", x.register(9), 0x8F0F0F1F);
        Check.due("asking changes no copy", x.bits(64 + 27), 0x8F0F0F0FL);
        for (int r = 0; r < 32; r++) {
            x.set(r, MIN + r);
        }
        for (int r = 0; r < 32; r++) {
            Check.due("register " + r, x.register(r), MIN + r);
        }
    }

    private static void noRegisterToTell() {
        Check.sentence("Promise 4", "0 when there is none");
        VotedCore x = new VotedCore(1);
        for (int r = 0; r < 32; r++) {
            x.set(r, -1);
        }
        for (int r : new int[] {-1, 32, -32, 33, 64, MIN, MAX}) {
            Check.due("register " + r, x.register(r), 0);
        }
        Check.due("register 31", x.register(31), -1);
        Check.due("register 0", x.register(0), -1);
    }

    private static void lookTells() {
        Check.sentence("Promise 5", "The value that reading word w would give, from 0 to 2^32 - 1");
        VotedCore x = new VotedCore(1);
        int[] values = {0, 1, MAX, MIN, -2, -1};
        long[] due = {0, 1, 2147483647L, 2147483648L, 4294967294L, 4294967295L};
        for (int i = 0; i < values.length; i++) {
            x.write(63, values[i]);
            Check.due("look at " + values[i], x.look(63), due[i]);
        }
        x.write(0, 5);
        Check.due("look 0", x.look(0), 5);
        x = Asm.core(Asm.load(2, 1, 0, 40), Asm.NOP);
        x.write(10, 7);
        x.run(1);
        x.flip(10, 3);
        x.flip(10, 5);
        Check.due("a line that holds the word is not asked", x.look(10), VotedCore.BROKEN);
    }

    private static void lookPutsNothingRight() {
        Check.sentence("Promise 5", "nothing being put right");
        VotedCore x = new VotedCore(1);
        x.write(63, 0x80000001);
        long good = x.bits(63);
        for (int bit = 0; bit < 39; bit++) {
            x.flip(63, bit);
            Check.due("the value behind wrong bit " + bit, x.look(63), 0x80000001L);
            Check.due("the bits", x.bits(63), good ^ 1L << bit);
            x.flip(63, bit);
        }
        Check.due("nothing is counted", x.count(0), 0);
        x = Whole.busy(false);
        Whole before = Whole.of(x);
        for (int w = 0; w < 64; w++) {
            x.look(w);
        }
        before.stays("look at every word", x);
    }

    private static void lookAtABrokenWord() {
        Check.sentence("Promise 5", "BROKEN");
        VotedCore x = new VotedCore(1);
        x.flip(63, 0);
        x.flip(63, 38);
        Check.due("the last word", x.look(63), -2);
        x.flip(0, 1);
        x.flip(0, 2);
        Check.due("the first word", x.look(0), -2);
        Check.due("nothing is detected", x.count(1), 0);
        Check.due("nothing stops", x.cause(), 0);
    }

    private static void noWordToLookAt() {
        Check.sentence("Promise 5", "BAD when there is no such word");
        VotedCore x = Whole.busy(false);
        for (int w : new int[] {-1, 64, -64, 65, 128, MIN, MAX}) {
            Check.due("look " + w, x.look(w), -1);
        }
        Check.due("look 63", x.look(63), 99);
    }

    private static void partsAndTheirNumbers() {
        Check.sentence("Terms, parts", "PARTS that may flip: 0 .. 63 the words; 64 + 3 r + c copy c of register r; 160 .. 163 the lines of cache 0, 164 .. 167 those of cache 1.");
        VotedCore x = new VotedCore(64);
        x.write(0, Asm.add(1, 0, 1));
        x.write(63, Asm.load(2, 31, 0, 0));
        Check.due("part 0 is word 0", x.bits(0) != 0, true);
        Check.due("part 63 is word 63", x.bits(63) != 0, true);
        Check.due("part 64 is none", x.bits(64), 0);
        x.set(0, 252);
        Check.due("part 64 is copy 0 of the place", x.bits(64), 252);
        Check.due("part 66 is copy 2 of the place", x.bits(66), 252);
        x.run(1);
        Check.due("part 157 is copy 0 of register 31", x.bits(157), Asm.add(1, 0, 1));
        Check.due("part 159 is copy 2 of register 31", x.bits(159), Asm.add(1, 0, 1));
        Check.due("part 160 is line 0 of cache 0", x.bits(160), 0);
        Check.due("part 163 is line 3 of cache 0", x.bits(163) & 0xFFFFFFFFL, Asm.load(2, 31, 0, 0));
        Check.due("part 164 is line 0 of cache 1", x.bits(164) & 0xFFFFFFFFL, Asm.add(1, 0, 1));
        Check.due("part 167 is line 3 of cache 1", x.bits(167), 0);
    }

    private static void bitsTell() {
        Check.sentence("Promise 6", "The bits of a part (bit 0 counts 1)");
        VotedCore x = new VotedCore(1);
        x.write(15, 1);
        // Bit 3 is the value; 1 and 2 make the numbers' exclusive or 0, bit 0 makes the count even.
        Check.due("a word", x.bits(15), 0b1111);
        x.set(31, -1);
        Check.due("a copy has no sign", x.bits(159), 4294967295L);
        x.flip(167, 0);
        x.flip(167, 37);
        Check.due("a line", x.bits(167), 1 + (1L << 37));
        x.flip(15, 38);
        Check.due("a wrong word as it is", x.bits(15), 0b1111 + (1L << 38));
        x = Whole.busy(true);
        Whole.of(x).stays("asking changes nothing", x);
    }

    private static void noPartToTell() {
        Check.sentence("Promise 6", "BAD when there is none");
        VotedCore x = Whole.busy(false);
        for (int part : new int[] {-1, 168, -168, 169, 256, MIN, MAX}) {
            Check.due("bits " + part, x.bits(part), -1);
        }
        Check.due("bits 167", x.bits(167) >= 0, true);
        Check.due("bits 0", x.bits(0) >= 0, true);
    }

    private static int width(int part) {
        return part < 64 ? 39 : part < 160 ? 32 : 38;
    }

    private static void flipNow() {
        Check.sentence("Promise 7", "Flips a bit of a part now");
        for (int part = 0; part < PARTS; part++) {
            VotedCore x = new VotedCore(1);
            for (int bit = 0; bit < width(part); bit++) {
                Check.due("flip " + part + ", " + bit, x.flip(part, bit), true);
                Check.due("bits " + part, x.bits(part), (1L << bit + 1) - 1);
            }
            for (int bit = 0; bit < width(part); bit++) {
                x.flip(part, bit);
            }
            Whole.of(new VotedCore(1)).stays("flipped back, part " + part, x);
        }
        VotedCore x = Whole.busy(true);
        Whole before = Whole.of(x);
        long bits = x.bits(62);
        Check.due("while stopped", x.flip(62, 0), true);
        Check.due("its bits", x.bits(62), bits ^ 1);
        before.staysBut("the rest", x, 62, 62);
    }

    private static void noPartToFlip() {
        Check.sentence("Promise 7", "false when there is no such part");
        VotedCore x = Whole.busy(false);
        Whole before = Whole.of(x);
        for (int part : new int[] {-1, 168, -64, 169, 256, MIN, MAX}) {
            Check.due("flip part " + part, x.flip(part, 0), false);
            Check.due("flip part " + part + ", bit -1", x.flip(part, -1), false);
        }
        before.stays("no flip", x);
    }

    private static void noBitToFlip() {
        Check.sentence("Promise 7", "or bit (They have 39, 32 and 38 BITS.)");
        for (int part = 0; part < PARTS; part++) {
            VotedCore x = new VotedCore(1);
            int width = width(part);
            for (int bit : new int[] {width, -1, width + 1, 40, 64, -64, MIN, MAX}) {
                Check.due("flip " + part + ", " + bit, x.flip(part, bit), false);
            }
            Whole.of(new VotedCore(1)).stays("no flip of part " + part, x);
            Check.due("the last bit of part " + part, x.flip(part, width - 1), true);
            Check.due("bits of part " + part, x.bits(part), 1L << width - 1);
        }
    }
}
