/** Terms, MEMORY: how a word is kept, and what looking at it, reading and writing it do. */
public final class MemoryTest {
    private static final int[] VALUES = {
        0, 1, 2, 3, 0x80000000, -1, 0x55555555, 0xAAAAAAAA, 305419896, -123456, 0x04000000, 0x03FFF800, 0x7F0, 0xE
    };
    /** The number of each bit of a value, from the lowest on. */
    private static final int[] NUMBERS = {
        3, 5, 6, 7, 9, 10, 11, 12, 13, 14, 15, 17, 18, 19, 20, 21, 22, 23, 24, 25, 26, 27, 28, 29, 30, 31,
        33, 34, 35, 36, 37, 38
    };
    private static final long CODE_BITS = 1L | 1L << 1 | 1L << 2 | 1L << 4 | 1L << 8 | 1L << 16 | 1L << 32;

    public static void main(String[] args) {
        addresses();
        numbersOfTheBits();
        exclusiveOrIsZero();
        countIsEven();
        goodWord();
        oneWrongBit();
        numberAtMost38();
        bit0();
        numberAbove38IsBroken();
        evenWithANumberIsBroken();
        threeWrongBits();
        reading();
        readingABrokenWord();
        writing();
        Check.end();
    }

    private static VotedCore holding(int value, int... flips) {
        VotedCore x = new VotedCore(64);
        x.write(7, value);
        for (int bit : flips) {
            x.flip(7, bit);
        }
        return x;
    }

    /** The same, coming to load word 7 into register 1. */
    private static VotedCore loading(int value, int... flips) {
        VotedCore x = holding(value);
        x.write(0, Asm.load(2, 1, 0, 28));
        x.set(1, 4444);
        for (int bit : flips) {
            x.flip(7, bit);
        }
        return x;
    }

    private static int xorOfNumbers(long word) {
        int numbers = 0;
        for (int number = 1; number < 39; number++) {
            numbers ^= (word >>> number & 1) == 1 ? number : 0;
        }
        return numbers;
    }

    private static boolean isOdd(long word) {
        boolean odd = false;
        for (int number = 0; number < 39; number++) {
            odd ^= (word >>> number & 1) == 1;
        }
        return odd;
    }

    private static long valueOf(long word) {
        long value = 0;
        for (int i = 0; i < 32; i++) {
            value |= (word >>> NUMBERS[i] & 1) << i;
        }
        return value;
    }

    private static void addresses() {
        Check.sentence("Terms, memory", "MEMORY has 64 WORDS; word w has the addresses 4 w .. 4 w + 3, the lowest byte first.");
        for (int address = 0; address < 256; address++) {
            int w = address / 4;
            int codeAt = w == 20 ? 21 : 20;
            VotedCore x = new VotedCore(64);
            x.write(w, 0x44332211 + w * 0x01010101);
            x.write(codeAt, Asm.load(4, 1, 2, 0));
            x.set(0, 4 * codeAt);
            x.set(2, address);
            x.run(1);
            Check.due("the byte at " + address, x.register(1), 0x11 * (address % 4 + 1) + w);
        }
    }

    private static void numbersOfTheBits() {
        Check.sentence("Terms, memory", "bit 0 of v is bit 3, bit 1 bit 5, and so on upward over the numbers that are not 1, 2, 4, 8, 16, 32 (and not 0)");
        for (int i = 0; i < 32; i++) {
            VotedCore x = holding(1 << i);
            Check.due("the number of bit " + i, x.bits(7) & ~CODE_BITS, 1L << NUMBERS[i]);
            Check.due("look at bit " + i, x.look(7), 1L << i);
            x = holding(~(1 << i));
            Check.due("look at all but bit " + i, x.look(7), 0xFFFFFFFFL ^ 1L << i);
        }
        Check.due("all bits", holding(-1).bits(7) & ~CODE_BITS, (1L << 39) - 1 & ~CODE_BITS);
    }

    private static void exclusiveOrIsZero() {
        Check.sentence("Terms, memory", "bits 1, 2, 4, 8, 16, 32 are such that the exclusive or of the numbers of all bits from 1 on that are 1 is 0");
        for (int value : VALUES) {
            Check.due("the exclusive or of " + value, xorOfNumbers(holding(value).bits(7)), 0);
        }
        for (int i = 0; i < 32; i++) {
            long code = holding(1 << i).bits(7) & CODE_BITS & ~1L;
            Check.due("the code of bit " + i, xorOfNumbers(code), NUMBERS[i]);
        }
        Check.due("0 has no bit", holding(0).bits(7), 0);
    }

    private static void countIsEven() {
        Check.sentence("Terms, memory", "bit 0 is such that the number of all bits that are 1 is even");
        for (int value : VALUES) {
            Check.due(value + " is odd", isOdd(holding(value).bits(7)), false);
        }
        Check.due("bits 3, 2, 1 need bit 0", holding(1).bits(7), 0b1111);
        Check.due("bits 7, 4, 2, 1 do not", holding(8).bits(7), 0b10010110);
    }

    private static void goodWord() {
        Check.sentence("Terms, memory", "If s is 0 and q does not hold, it is GOOD");
        for (int value : VALUES) {
            VotedCore x = loading(value);
            long bits = x.bits(7);
            x.run(1);
            Check.due("the value", x.register(1), value);
            Check.due("the bits of " + value, x.bits(7), bits);
            Check.due("nothing is corrected", x.count(0), 0);
        }
        VotedCore x = loading(0, 0, 1, 2, 3);
        Check.due("four wrong bits that look good", x.look(7), 1);
        x.run(1);
        Check.due("their value", x.register(1), 1);
        Check.due("they stay", x.bits(7), 15);
        Check.due("and are not seen", x.count(0), 0);
    }

    private static void oneWrongBit() {
        Check.sentence("Terms, memory", "if q holds and s is at most 38, bit s is wrong");
        for (int value : VALUES) {
            VotedCore x = holding(value);
            for (int bit = 0; bit < 39; bit++) {
                x.flip(7, bit);
                Check.due(value + " behind wrong bit " + bit, x.look(7), value & 0xFFFFFFFFL);
                x.flip(7, bit);
            }
        }
    }

    private static void numberAtMost38() {
        Check.sentence("Terms, memory", "s is at most 38");
        VotedCore x = loading(0, 32, 4, 2);
        Check.due("the bits 32, 4 and 2 say that bit 38 is wrong", x.look(7), 0x80000000L);
        x.run(1);
        Check.due("it is put right", x.bits(7), 1L << 38 | 1L << 32 | 1L << 4 | 1L << 2);
        Check.due("and counted", x.count(0), 1);
        Check.due("38 from bit 38 alone", loading(0, 38).look(7), 0);
        Check.due("37 from the bits 32, 4 and 1", loading(0, 32, 4, 1).look(7), 0x40000000L);
        Check.due("39 from the bits 36, 2 and 1", loading(0, 36, 2, 1).look(7), -2);
    }

    private static void bit0() {
        Check.sentence("Terms, memory", "(bit 0, if s is 0)");
        VotedCore x = loading(77, 0);
        long wrong = x.bits(7);
        Check.due("bit 0 alone", x.look(7), 77);
        x.run(1);
        Check.due("the value", x.register(1), 77);
        Check.due("bit 0 is put right", x.bits(7), wrong ^ 1);
        Check.due("and counted", x.count(0), 1);
        x = loading(0, 1, 2, 3);
        Check.due("the bits 1, 2 and 3 have the exclusive or 0", x.look(7), 1);
        x.run(1);
        Check.due("bit 0 makes them good", x.bits(7), 15);
        Check.due("and is counted", x.count(0), 1);
    }

    private static void numberAbove38IsBroken() {
        Check.sentence("Terms, memory", "otherwise it is BROKEN (q holds, s is above 38)");
        int[][] threes = {
            {36, 2, 1, 39}, {32, 9, 1, 40}, {33, 10, 2, 41}, {38, 9, 6, 41}, {32, 16, 15, 63}, {38, 16, 8, 62}
        };
        for (int[] three : threes) {
            VotedCore x = loading(-1, three[0], three[1], three[2]);
            Check.due("the exclusive or is as meant", xorOfNumbers(x.bits(7)), three[3]);
            Check.due("s " + three[3], x.look(7), VotedCore.BROKEN);
            x.run(1);
            Check.due("s " + three[3] + " stops it", x.cause(), 5);
        }
    }

    private static void evenWithANumberIsBroken() {
        Check.sentence("Terms, memory", "otherwise it is BROKEN (q does not hold, s is not 0)");
        for (int value : VALUES) {
            for (int one = 0; one < 39; one++) {
                VotedCore x = holding(value, one);
                for (int two = one + 1; two < 39; two++) {
                    x.flip(7, two);
                    Check.due(value + ", wrong bits " + one + " and " + two, x.look(7), -2);
                    x.flip(7, two);
                }
            }
        }
    }

    private static long dueLook(long word) {
        int s = xorOfNumbers(word);
        if (!isOdd(word)) {
            return s == 0 ? valueOf(word) : -2;
        }
        return s > 38 ? -2 : valueOf(word ^ 1L << s);
    }

    private static void threeWrongBits() {
        Check.sentence("Terms, memory", "LOOKING at a word: let s be the exclusive or of the numbers of all its bits from 1 on that are 1, and q whether the number of all its bits that are 1 is odd.");
        for (int value : VALUES) {
            for (int one = 0; one < 37; one++) {
                VotedCore x = holding(value, one, 38);
                for (int two = one + 1; two < 38; two++) {
                    x.flip(7, two);
                    Check.due(value + ", wrong bits " + one + ", " + two + ", 38", x.look(7), dueLook(x.bits(7)));
                    x.flip(7, two);
                }
            }
        }
    }

    private static void reading() {
        Check.sentence("Terms, memory", "To READ a word is to look at it: a wrong bit is put right where it is kept (CORRECTED grows by 1); the value is that of the 32 bits then.");
        for (int value : VALUES) {
            VotedCore x = loading(value);
            x.write(1, Asm.jump(0, -4));
            long good = x.bits(7);
            for (int bit = 0; bit < 39; bit++) {
                x.flip(7, bit);
                // A write of another word empties the caches, so that the word is read anew.
                x.write(9, 0);
                x.run(1);
                Check.due(value + ", wrong bit " + bit + ": register", x.register(1), value);
                Check.due(value + ", wrong bit " + bit + ": put right", x.bits(7), good);
                Check.due(value + ", wrong bit " + bit + ": corrected", x.count(0), bit + 1);
                x.run(1);
            }
        }
    }

    private static void readingABrokenWord() {
        Check.sentence("Terms, memory", "A broken one has none.");
        VotedCore x = loading(5, 3, 5);
        long broken = x.bits(7);
        x.run(1);
        Check.due("it stops", x.cause(), 5);
        Check.due("register 1 gets nothing", x.register(1), 4444);
        Check.due("no bit is put right", x.bits(7), broken);
        Check.due("none is counted", x.count(0), 0);
        Check.due("no line gets it", x.bits(167), 0);
    }

    private static void writing() {
        Check.sentence("Terms, memory", "To WRITE a word is to keep a value anew.");
        long[] due = {holding(8).bits(7), holding(-1).bits(7)};
        int[] values = {8, -1};
        int[][] flips = {{}, {0}, {38}, {3, 5}, {36, 2, 1}};
        for (int i = 0; i < values.length; i++) {
            for (int[] before : flips) {
                VotedCore x = holding(305419896, before);
                x.write(7, values[i]);
                Check.due("the bits of " + values[i], x.bits(7), due[i]);
                Check.due("nothing is put right", x.count(0), 0);
                Check.due("the words beside", x.bits(6) + x.bits(8), 0);
            }
        }
    }
}
