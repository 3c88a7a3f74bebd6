/** Promises 1 to 7: a new object, and the calls that read and change what is stored. */
public final class StateTest {
    private static final int PARTS = 168;

    public static void main(String[] args) {
        promise1NewObject();
        promise1EveryIsTheNearestNumber();
        promise2Write();
        promise3Set();
        promise4Register();
        promise5Look();
        promise6Bits();
        promise7Flip();
        Check.end();
    }

    private static void promise1NewObject() {
        VotedCore x = new VotedCore(4);
        for (int part = 0; part < PARTS; part++) {
            Check.due("new: bits " + part, x.bits(part), 0);
        }
        for (int w = 0; w < 64; w++) {
            Check.due("new: look " + w, x.look(w), 0);
        }
        for (int r = 0; r < 32; r++) {
            Check.due("new: register " + r, x.register(r), 0);
        }
        for (int what = 0; what < 6; what++) {
            Check.due("new: count " + what, x.count(what), 0);
        }
        Check.due("new: planned", x.planned(), 0);
        Check.due("new: cycles", x.cycles(), 0);
        Check.due("new: cause", x.cause(), 0);
        Check.due("new: value", x.value(), 0);
        Check.due("new: it runs, so no resume", x.resume(0), false);
        Check.due("new: it runs", x.run(1), 1);
    }

    private static void promise1EveryIsTheNearestNumber() {
        everyIs(Integer.MIN_VALUE, 1);
        everyIs(-1, 1);
        everyIs(0, 1);
        everyIs(1, 1);
        everyIs(2, 2);
        everyIs(7, 7);
        everyIs(63, 63);
        everyIs(64, 64);
        everyIs(65, 64);
        everyIs(Integer.MAX_VALUE, 64);
    }

    private static void everyIs(int asked, int every) {
        VotedCore x = new VotedCore(asked);
        x.write(0, Asm.jump(0, 0));
        x.run(every - 1);
        Check.due("every " + asked + ": the scrubber waits", x.count(5), 0);
        x.run(1);
        Check.due("every " + asked + ": the scrubber came", x.count(5), 1);
        x.run(every);
        Check.due("every " + asked + ": the scrubber came again", x.count(5), 2);
    }

    private static void promise2Write() {
        VotedCore x = Asm.core(Asm.load(2, 1, 0, 20), Asm.CALL);
        Check.due("write 0, -1", x.write(5, -1), true);
        Check.due("look at it", x.look(5), 4294967295L);
        x.run(1);
        Check.due("line 0 of cache 0 is full", x.bits(160) != 0, true);
        Check.due("line 1 of cache 1 is full", x.bits(165) != 0, true);
        Check.due("no word -1", x.write(-1, 7), false);
        Check.due("no word 64", x.write(64, 7), false);
        Check.due("no word of the least number", x.write(Integer.MIN_VALUE, 7), false);
        Check.due("no word of the greatest number", x.write(Integer.MAX_VALUE, 7), false);
        Check.due("a refused write drops nothing", x.bits(165) != 0, true);
        Check.due("write 63", x.write(63, 9), true);
        for (int part = 160; part < PARTS; part++) {
            Check.due("all lines are dropped: " + part, x.bits(part), 0);
        }
        Check.due("look 63", x.look(63), 9);
        x.flip(162, 3);
        x.write(2, 0);
        Check.due("a wrong line is dropped too", x.bits(162), 0);
        Check.due("which is no refetch", x.count(3), 0);
        x.run(1);
        Check.due("it stopped", x.cause(), 3);
        Check.due("write while stopped", x.write(6, 1), true);
        Check.due("it is still stopped", x.cause(), 3);
        x.flip(6, 3);
        x.flip(6, 5);
        Check.due("a broken word", x.look(6), VotedCore.BROKEN);
        x.write(6, 2);
        Check.due("is written anew", x.look(6), 2);
        Check.due("which corrects nothing", x.count(0), 0);
    }

    private static void promise3Set() {
        VotedCore x = new VotedCore(1);
        for (int r = 0; r < 32; r++) {
            Check.due("set " + r, x.set(r, -1000 - r), true);
        }
        for (int r = 0; r < 32; r++) {
            for (int c = 0; c < 3; c++) {
                Check.due("copy " + c + " of " + r, x.bits(64 + 3 * r + c), 4294966296L - r);
            }
        }
        Check.due("set 32", x.set(32, 1), false);
        Check.due("set -1", x.set(-1, 1), false);
        Check.due("set of the greatest number", x.set(Integer.MAX_VALUE, 1), false);
        Check.due("set of the least number", x.set(Integer.MIN_VALUE, 1), false);
        Check.due("the place may be odd", x.set(0, 5), true);
        x.run(1);
        Check.due("it went there", x.value(), 5);
        Check.due("set while stopped", x.set(0, 8), true);
        Check.due("the place is set", x.register(0), 8);
        Check.due("it is still stopped", x.cause(), 1);
        x.flip(67, 1);
        x.set(1, 12);
        x.run(1);
        Check.due("set made all copies equal", x.bits(67), 12);
    }

    private static void promise4Register() {
        VotedCore x = new VotedCore(1);
        x.set(9, 0x0F0F0F0F);
        x.flip(64 + 27, 31);
        Check.due("one wrong copy", x.register(9), 0x0F0F0F0F);
        x.flip(64 + 28, 4);
        Check.due("another bit of the second copy", x.register(9), 0x0F0F0F0F);
        x.flip(64 + 29, 0);
        Check.due("another bit of the third copy", x.register(9), 0x0F0F0F0F);
        x.flip(64 + 29, 31);
        Check.due("two copies say otherwise of bit 31", x.register(9), 0x8F0F0F0F);
        x.flip(64 + 28, 0);
        Check.due("two copies say otherwise of bit 0", x.register(9), 0x8F0F0F0E);
        x.flip(64 + 27, 4);
        Check.due("two copies say otherwise of bit 4", x.register(9), 0x8F0F0F1E);
        Check.due("asking changes no copy", x.bits(64 + 27), 0x8F0F0F1FL);
        x.set(0, 77);
        Check.due("register 0 is the place", x.register(0), 77);
        Check.due("register 32", x.register(32), 0);
        Check.due("register -1", x.register(-1), 0);
        Check.due("register of the greatest number", x.register(Integer.MAX_VALUE), 0);
        Check.due("register of the least number", x.register(Integer.MIN_VALUE), 0);
    }

    private static void promise5Look() {
        VotedCore x = new VotedCore(1);
        x.write(63, 0x80000001);
        Check.due("a good word", x.look(63), 0x80000001L);
        long good = x.bits(63);
        for (int bit = 0; bit < 39; bit++) {
            x.flip(63, bit);
            Check.due("the value behind wrong bit " + bit, x.look(63), 0x80000001L);
            Check.due("nothing is put right", x.bits(63), good ^ 1L << bit);
            x.flip(63, bit);
        }
        Check.due("nothing is counted", x.count(0), 0);
        x.flip(63, 0);
        x.flip(63, 38);
        Check.due("a broken word", x.look(63), -2);
        Check.due("nothing is detected", x.count(1), 0);
        Check.due("look 64", x.look(64), -1);
        Check.due("look -1", x.look(-1), -1);
        Check.due("look at the greatest number", x.look(Integer.MAX_VALUE), -1);
        Check.due("look at the least number", x.look(Integer.MIN_VALUE), -1);
    }

    private static void promise6Bits() {
        VotedCore x = Asm.core(Asm.load(2, 1, 0, 60), Asm.NOP);
        x.write(15, 1);
        // Bit 3 is the value; 1 and 2 make the numbers' exclusive or 0, bit 0 makes the count even.
        Check.due("bits of a word", x.bits(15), 0b1111);
        x.set(31, -1);
        Check.due("bits of the last copy", x.bits(159), 4294967295L);
        x.run(1);
        // The value 1, the tag 3, full: four ones, and so a parity of 0.
        Check.due("bits of a line of cache 1", x.bits(167), 1L | 3L << 32 | 1L << 36);
        Check.due("bits of a line of cache 0", x.bits(160) & 0xFFFFFFFFL, Asm.load(2, 1, 0, 60));
        Check.due("its tag and that it is full", x.bits(160) >> 32 & 31, 16);
        Check.due("bits 168", x.bits(168), -1);
        Check.due("bits -1", x.bits(-1), -1);
        Check.due("bits of the greatest number", x.bits(Integer.MAX_VALUE), -1);
        Check.due("bits of the least number", x.bits(Integer.MIN_VALUE), -1);
    }

    private static void promise7Flip() {
        for (int part = 0; part < PARTS; part++) {
            int width = part < 64 ? 39 : part < 160 ? 32 : 38;
            flipEveryBit(part, width);
        }
        VotedCore x = new VotedCore(1);
        Check.due("flip part 168", x.flip(168, 0), false);
        Check.due("flip part -1", x.flip(-1, 0), false);
        Check.due("flip the greatest part", x.flip(Integer.MAX_VALUE, 0), false);
        Check.due("flip the least part", x.flip(Integer.MIN_VALUE, 0), false);
    }

    private static void flipEveryBit(int part, int width) {
        VotedCore x = new VotedCore(1);
        for (int bit = 0; bit < width; bit++) {
            Check.due("flip " + part + ", " + bit, x.flip(part, bit), true);
            Check.due("bits " + part, x.bits(part), (1L << bit + 1) - 1);
        }
        Check.due("flip back " + part, x.flip(part, width - 1), true);
        Check.due("flip " + part + ", " + width, x.flip(part, width), false);
        Check.due("flip " + part + ", -1", x.flip(part, -1), false);
        Check.due("flip " + part + ", greatest", x.flip(part, Integer.MAX_VALUE), false);
        Check.due("flip " + part + ", least", x.flip(part, Integer.MIN_VALUE), false);
        Check.due("bits at the end " + part, x.bits(part), (1L << width - 1) - 1);
        for (int other = 0; other < PARTS; other++) {
            if (other != part) {
                Check.due("the other part " + other, x.bits(other), 0);
            }
        }
    }
}
