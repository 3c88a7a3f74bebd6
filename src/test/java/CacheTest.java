/** Terms, CACHES: fetching, saving, dropping and parity. */
public final class CacheTest {
    public static void main(String[] args) {
        everyWordHasItsLine();
        aFullLineIsUsed();
        anotherTagIsFetched();
        aTagOfAnotherWordIsNotUsed();
        wrongParityIsRefetched();
        everyBitOfALineIsSeen();
        aBrokenWordLeavesTheLine();
        savingIntoLines();
        savingLooksAtParity();
        savingOtherTags();
        bytesAndHalvesAreFetchedFirst();
        aWordIsSavedUnseen();
        aStopKeepsCachesAndCorrections();
        Check.end();
    }

    private static long line(int value, int w) {
        long line = value & 0xFFFFFFFFL | (long) (w / 4) << 32 | 1L << 36;
        return Long.bitCount(line) % 2 == 0 ? line : line | 1L << 37;
    }

    private static void everyWordHasItsLine() {
        for (int w = 1; w < 64; w++) {
            VotedCore x = Asm.core(Asm.load(2, 1, 0, 4 * w));
            x.write(w, 1000 + w);
            x.run(1);
            Check.due("register from word " + w, x.register(1), 1000 + w);
            for (int i = 0; i < 4; i++) {
                Check.due("line " + i + " for word " + w, x.bits(164 + i), i == w % 4 ? line(1000 + w, w) : 0);
            }
            VotedCore y = new VotedCore(64);
            y.write(w, Asm.NOP);
            y.set(0, 4 * w);
            y.run(1);
            for (int i = 0; i < 4; i++) {
                Check.due("code line " + i + " for word " + w, y.bits(160 + i), i == w % 4 ? line(Asm.NOP, w) : 0);
            }
        }
    }

    /** Has loaded word 10 (the value 7) and comes to load it again; line 2 of cache 1 holds it. */
    private static VotedCore afterALoad() {
        VotedCore x = Asm.core(Asm.load(2, 1, 0, 40), Asm.load(2, 2, 0, 40), Asm.NOP);
        x.write(10, 7);
        x.run(1);
        return x;
    }

    private static void aFullLineIsUsed() {
        VotedCore x = afterALoad();
        x.flip(10, 3);
        x.flip(10, 5);
        x.run(1);
        Check.due("the broken word is not read", x.cause(), 0);
        Check.due("the line's value", x.register(2), 7);
        x = afterALoad();
        x.flip(10, 3);
        x.run(1);
        Check.due("nothing is put right then", x.count(0), 0);
        x = afterALoad();
        x.flip(166, 31);
        x.flip(166, 4);
        x.run(1);
        Check.due("two wrong bits of a line are not seen", x.register(2), 7 ^ 1 << 31 ^ 16);
        Check.due("no refetch", x.count(4), 0);
    }

    private static void anotherTagIsFetched() {
        VotedCore x = Asm.core(Asm.load(2, 1, 0, 40), Asm.load(2, 2, 0, 56), Asm.load(2, 3, 0, 40));
        x.write(10, 7);
        x.write(14, 8);
        x.run(2);
        Check.due("word 14", x.register(2), 8);
        Check.due("has the line now", x.bits(166), line(8, 14));
        Check.due("which is no refetch", x.count(4), 0);
        x.run(1);
        Check.due("word 10 again", x.register(3), 7);
        Check.due("has it back", x.bits(166), line(7, 10));
    }

    private static void aTagOfAnotherWordIsNotUsed() {
        VotedCore x = afterALoad();
        x.flip(166, 36);
        x.flip(166, 0);
        x.run(1);
        Check.due("a line that is not full is not used", x.register(2), 7);
        Check.due("and filled anew", x.bits(166), line(7, 10));
        Check.due("its parity was not wrong", x.count(4), 0);
        x = afterALoad();
        x.flip(166, 35);
        x.flip(166, 0);
        x.run(1);
        Check.due("another tag is not used", x.register(2), 7);
        Check.due("no refetch for it", x.count(4), 0);
    }

    private static void wrongParityIsRefetched() {
        VotedCore x = afterALoad();
        x.flip(166, 0);
        x.write(20, 0);
        x.flip(166, 0);
        x.run(1);
        Check.due("even an empty line is dropped", x.count(4), 1);
        Check.due("of cache 1 alone", x.count(3), 0);
        x = afterALoad();
        x.flip(10, 4);
        x.flip(166, 2);
        x.run(1);
        Check.due("the word is read again", x.register(2), 7);
        Check.due("and put right", x.count(0), 1);
        Check.due("refetched", x.count(4), 1);
        x = afterALoad();
        x.flip(161, 6);
        x.flip(167, 6);
        x.run(1);
        Check.due("the line of the instruction", x.count(3), 1);
        Check.due("a line that is not asked for stays wrong", x.bits(167), 64);
        Check.due("and uncounted", x.count(4), 0);
    }

    private static void everyBitOfALineIsSeen() {
        for (int bit = 0; bit < 38; bit++) {
            VotedCore x = afterALoad();
            x.flip(166, bit);
            x.run(1);
            Check.due("bit " + bit + ": the value", x.register(2), 7);
            Check.due("bit " + bit + ": refetched", x.count(4), 1);
            Check.due("bit " + bit + ": the line", x.bits(166), line(7, 10));
        }
    }

    private static void aBrokenWordLeavesTheLine() {
        VotedCore x = Asm.core(Asm.load(2, 1, 0, 40), Asm.load(2, 2, 0, 56));
        x.write(10, 7);
        x.flip(14, 3);
        x.flip(14, 5);
        x.run(2);
        Check.due("CHECK", x.cause(), 5);
        Check.due("of word 14", x.value(), 14);
        Check.due("the line holds word 10 still", x.bits(166), line(7, 10));
        x.flip(166, 0);
        x.resume(4);
        x.run(1);
        Check.due("a wrong one is dropped all the same", x.bits(166), 0);
        Check.due("and counted", x.count(4), 1);
        Check.due("register 2 got nothing", x.register(2), 0);
        Check.due("nothing is detected but by the scrubber", x.count(1), 0);
    }

    /** Has word 10 in both caches, as an instruction and as data, and comes to a store of register 5 there. */
    private static VotedCore beforeASave() {
        VotedCore x = Asm.core(Asm.load(2, 1, 0, 40), Asm.store(2, 5, 0, 40), Asm.NOP);
        x.write(10, Asm.jump(0, -36));
        x.set(5, 99);
        x.set(0, 40);
        x.run(1);
        x.set(0, 0);
        x.run(1);
        return x;
    }

    private static void savingIntoLines() {
        VotedCore x = beforeASave();
        Check.due("before, in cache 0", x.bits(162), line(Asm.jump(0, -36), 10));
        Check.due("before, in cache 1", x.bits(166), line(Asm.jump(0, -36), 10));
        x.run(1);
        Check.due("the word", x.look(10), 99);
        Check.due("the line of cache 0 is dropped", x.bits(162), 0);
        Check.due("the line of cache 1 has it", x.bits(166), line(99, 10));
        Check.due("no refetch", x.count(3) + x.count(4), 0);
    }

    private static void savingLooksAtParity() {
        VotedCore x = beforeASave();
        x.flip(162, 0);
        x.flip(166, 37);
        x.run(1);
        Check.due("dropped in cache 0", x.bits(162), 0);
        Check.due("dropped in cache 1", x.bits(166), 0);
        Check.due("counted of cache 0", x.count(3), 1);
        Check.due("counted of cache 1", x.count(4), 1);
        Check.due("the word has it", x.look(10), 99);
        x = beforeASave();
        x.flip(166, 1);
        x.flip(166, 2);
        x.run(1);
        Check.due("two wrong bits are overwritten", x.bits(166), line(99, 10));
    }

    private static void savingOtherTags() {
        VotedCore x = Asm.core(Asm.load(2, 1, 0, 40), Asm.store(2, 5, 0, 56), Asm.store(2, 5, 0, 60));
        x.write(10, 7);
        x.set(5, 99);
        x.run(2);
        Check.due("a line with another tag stays", x.bits(166), line(7, 10));
        Check.due("word 14", x.look(14), 99);
        x.run(1);
        Check.due("an empty line stays empty", x.bits(167), 0);
        Check.due("word 15", x.look(15), 99);
        x = Asm.core(Asm.NOP, Asm.store(2, 5, 0, 16));
        x.run(2);
        Check.due("a code line with another tag stays", x.bits(160), line(Asm.NOP, 0));
        x = Asm.core(Asm.NOP, Asm.store(2, 5, 0, 56));
        x.flip(162, 1);
        x.flip(166, 3);
        x.run(2);
        Check.due("wrong empty lines are dropped", x.bits(162) + x.bits(166), 0);
        Check.due("and counted", 10 * x.count(3) + x.count(4), 11);
    }

    private static void bytesAndHalvesAreFetchedFirst() {
        for (int f = 0; f < 2; f++) {
            VotedCore x = Asm.core(Asm.store(f, 5, 0, 42));
            x.write(10, 0x11223344);
            x.set(5, 0xAABBCCDD);
            x.flip(10, 6);
            x.run(1);
            int want = f == 0 ? 0x11DD3344 : 0xCCDD3344;
            Check.due("the word, F " + f, x.look(10), want & 0xFFFFFFFFL);
            Check.due("the wrong bit was read, F " + f, x.count(0), 1);
            Check.due("the line, F " + f, x.bits(166), line(want, 10));
            VotedCore y = Asm.core(Asm.store(f, 5, 0, 42));
            y.flip(10, 6);
            y.flip(10, 7);
            long before = y.bits(10);
            y.run(1);
            Check.due("CHECK, F " + f, y.cause(), 5);
            Check.due("its value, F " + f, y.value(), 10);
            Check.due("the word stays, F " + f, y.bits(10), before);
            Check.due("the line stays, F " + f, y.bits(166), 0);
            Check.due("the place stays, F " + f, y.register(0), 0);
        }
    }

    private static void aWordIsSavedUnseen() {
        VotedCore x = Asm.core(Asm.store(2, 5, 0, 40), Asm.store(2, 5, 0, 44));
        x.set(5, -5);
        x.flip(10, 6);
        x.flip(10, 7);
        x.flip(11, 9);
        x.run(2);
        Check.due("a broken word is no matter", x.cause(), 0);
        Check.due("it is kept anew", x.look(10), 4294967291L);
        Check.due("nothing is put right", x.count(0), 0);
        Check.due("no line is filled", x.bits(166), 0);
    }

    private static void aStopKeepsCachesAndCorrections() {
        VotedCore x = Asm.core(Asm.load(2, 1, 0, 41));
        x.flip(0, 8);
        x.run(1);
        Check.due("it stopped", x.cause(), 1);
        Check.due("the instruction's word is put right", x.count(0), 1);
        Check.due("and is in its line", x.bits(160), line(Asm.load(2, 1, 0, 41), 0));
        Check.due("no data was fetched", x.bits(166), 0);
    }
}
