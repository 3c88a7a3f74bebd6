/** Terms, MEMORY: how a word is kept, and what looking at it tells, against a plain reading bit by bit. */
public final class WordCodeTest {
    private static final int[] VALUES = {
        0, 1, 2, 3, 0x80000000, -1, 0x55555555, 0xAAAAAAAA, 305419896, -123456, 0x04000000, 0x03FFF800, 0x7F0, 0xE
    };

    public static void main(String[] args) {
        for (int value : VALUES) {
            keptAsDue(value);
            oneWrongBitIsPutRight(value);
            twoWrongBitsAreBroken(value);
            threeWrongBits(value);
        }
        for (int bit = 0; bit < 32; bit++) {
            keptAsDue(1 << bit);
        }
        Check.end();
    }

    private static boolean isCodeBit(int number) {
        return (number & (number - 1)) == 0;
    }

    private static long dueBits(int value) {
        long word = 0;
        int next = 0;
        for (int number = 3; number < 39; number++) {
            if (!isCodeBit(number)) {
                word |= (value >>> next & 1L) << number;
                next++;
            }
        }
        for (int number = 1; number < 39; number *= 2) {
            if ((xorOfNumbers(word) & number) != 0) {
                word |= 1L << number;
            }
        }
        return isOdd(word) ? word | 1 : word;
    }

    private static int xorOfNumbers(long word) {
        int numbers = 0;
        for (int number = 1; number < 39; number++) {
            if ((word >>> number & 1) == 1) {
                numbers ^= number;
            }
        }
        return numbers;
    }

    private static boolean isOdd(long word) {
        boolean odd = false;
        for (int number = 0; number < 39; number++) {
            odd ^= (word >>> number & 1) == 1;
        }
        return odd;
    }

    private static long dueLook(long word) {
        int numbers = xorOfNumbers(word);
        if (!isOdd(word) && numbers != 0 || isOdd(word) && numbers > 38) {
            return -2;
        }
        long right = isOdd(word) ? word ^ 1L << numbers : word;
        long value = 0;
        int next = 0;
        for (int number = 3; number < 39; number++) {
            if (!isCodeBit(number)) {
                value |= (right >>> number & 1) << next;
                next++;
            }
        }
        return value;
    }

    private static void keptAsDue(int value) {
        VotedCore x = new VotedCore(1);
        x.write(7, value);
        Check.due("bits of " + value, x.bits(7), dueBits(value));
        Check.due("look at " + value, x.look(7), value & 0xFFFFFFFFL);
        Check.due("the word beside", x.bits(6) + x.bits(8), 0);
    }

    private static void oneWrongBitIsPutRight(int value) {
        VotedCore x = new VotedCore(64);
        x.write(0, Asm.load(2, 1, 0, 28));
        x.write(1, Asm.jump(0, -4));
        x.write(7, value);
        long good = x.bits(7);
        for (int bit = 0; bit < 39; bit++) {
            x.flip(7, bit);
            // A write of another word empties the caches, so that the word is read anew.
            x.write(9, 0);
            x.run(1);
            Check.due(value + ", wrong bit " + bit + ": register", x.register(1), value);
            Check.due(value + ", wrong bit " + bit + ": put right", x.bits(7), good);
            Check.due(value + ", wrong bit " + bit + ": corrected", x.count(0), bit + 1);
            x.run(1);
        }
    }

    private static VotedCore holding(int value) {
        VotedCore x = new VotedCore(64);
        x.write(7, value);
        return x;
    }

    private static void twoWrongBitsAreBroken(int value) {
        for (int one = 0; one < 39; one++) {
            VotedCore x = holding(value);
            x.flip(7, one);
            for (int two = one + 1; two < 39; two++) {
                x.flip(7, two);
                Check.due(value + ", wrong bits " + one + " and " + two, x.look(7), -2);
                x.flip(7, two);
            }
        }
    }

    private static void threeWrongBits(int value) {
        boolean broken = false;
        for (int one = 0; one < 37; one++) {
            VotedCore x = holding(value);
            x.flip(7, one);
            x.flip(7, 38);
            for (int two = one + 1; two < 38; two++) {
                x.flip(7, two);
                Check.due(value + ", wrong bits " + one + ", " + two + ", 38", x.look(7), dueLook(x.bits(7)));
                broken |= x.look(7) == -2;
                x.flip(7, two);
            }
        }
        Check.due("some of them have a number above 38", broken, true);
    }
}
