/** Terms, CACHES: lines, fetching, saving, dropping and parity. */
public final class CacheTest {
    private static final int FULL = 36;
    private static final int PARITY = 37;

    public static void main(String[] args) {
        everyWordHasItsLine();
        bitsOfALine();
        droppedLines();
        wrongParityIsDropped();
        wrongParityOfInstructions();
        wrongParityOfEachLine();
        aFullLineIsUsed();
        anEmptyLineIsNotUsed();
        anotherTagIsNotUsed();
        anotherTagIsFetched();
        aBrokenWordLeavesTheLine();
        savingWritesTheWord();
        savingDropsWrongLines();
        savingIntoLines();
        savingLeavesOtherLines();
        Check.end();
    }

    private static long line(int value, int w) {
        long line = value & 0xFFFFFFFFL | (long) (w / 4) << 32 | 1L << FULL;
        return Long.bitCount(line) % 2 == 0 ? line : line | 1L << PARITY;
    }

    private static void everyWordHasItsLine() {
        Check.sentence("Terms, caches", "CACHES: 0 for instructions, 1 for data, with four LINES each.");
        for (int w = 1; w < 64; w++) {
            VotedCore x = Asm.core(Asm.load(2, 1, 0, 4 * w));
            x.write(w, 1000 + w);
            x.run(1);
            Check.due("register from word " + w, x.register(1), 1000 + w);
            linesAre("data, word " + w, x, 164, w, 1000 + w);
            VotedCore y = new VotedCore(64);
            y.write(w, Asm.NOP);
            y.set(0, 4 * w);
            y.run(1);
            linesAre("instruction, word " + w, y, 160, w, Asm.NOP);
        }
    }

    /** Line w % 4 holds word w, and the other three are empty. */
    private static void linesAre(String what, VotedCore x, int first, int w, int value) {
        for (int i = 0; i < 4; i++) {
            Check.due(what + ": line " + i, x.bits(first + i), i == w % 4 ? line(value, w) : 0);
        }
    }

    private static void bitsOfALine() {
        Check.sentence("Terms, caches", "A line has 38 bits: 0 .. 31 a value, 32 .. 35 a TAG, 36 whether it is FULL, 37 the PARITY, which is such that the number of all bits that are 1 is even.");
        Check.due("the value 0, tag 3", loaded(12, 0), 0x13L << 32 | 1L << PARITY);
        Check.due("the value 0, tag 15", loaded(63, 0), 0x1FL << 32 | 1L << PARITY);
        Check.due("the value 1, tag 15", loaded(63, 1), 0x1FL << 32 | 1);
        Check.due("all bits of a value, tag 15", loaded(63, -1), 0x1FL << 32 | 1L << PARITY | 0xFFFFFFFFL);
        Check.due("the value 1, tag 0", loaded(3, 1), 0x10L << 32 | 1);
        Check.due("the highest bit, tag 0", loaded(3, 0x80000000), 0x10L << 32 | 0x80000000L);
        Check.due("the value 0, tag 0", loaded(3, 0), 0x10L << 32 | 1L << PARITY);
    }

    /** The line of cache 1 after word w was loaded. */
    private static long loaded(int w, int value) {
        VotedCore x = Asm.core(Asm.load(2, 1, 0, 4 * w));
        x.write(w, value);
        x.run(1);
        return x.bits(164 + w % 4);
    }

    private static void droppedLines() {
        Check.sentence("Terms, caches", "At first, and when it is DROPPED, all its bits are 0.");
        VotedCore x = new VotedCore(1);
        for (int part = 160; part < 168; part++) {
            Check.due("at first: " + part, x.bits(part), 0);
        }
        x = afterALoad();
        x.flip(10, 3);
        x.flip(10, 5);
        x.flip(166, 30);
        x.run(1);
        Check.due("a wrong line whose word is broken", x.bits(166), 0);
    }

    /** Has loaded word 10 (the value 7) and comes to load it again; line 2 of cache 1 holds it. */
    private static VotedCore afterALoad() {
        VotedCore x = Asm.core(Asm.load(2, 1, 0, 40), Asm.load(2, 2, 0, 40), Asm.NOP);
        x.write(10, 7);
        x.run(1);
        return x;
    }

    private static void wrongParityIsDropped() {
        Check.sentence("Terms, caches", "line w % 4 is dropped if its parity is wrong (REFETCHED of this cache grows by 1)");
        for (int bit = 0; bit < 38; bit++) {
            VotedCore x = afterALoad();
            x.flip(166, bit);
            x.run(1);
            Check.due("bit " + bit + ": the value", x.register(2), 7);
            Check.due("bit " + bit + ": refetched", x.count(4), 1);
            Check.due("bit " + bit + ": of cache 0", x.count(3), 0);
            Check.due("bit " + bit + ": the line", x.bits(166), line(7, 10));
        }
        VotedCore x = afterALoad();
        x.write(20, 0);
        x.flip(166, 0);
        x.run(1);
        Check.due("even an empty line", x.count(4), 1);
        x = afterALoad();
        x.flip(10, 4);
        x.flip(166, 2);
        x.run(1);
        Check.due("the word is read again", x.register(2), 7);
        Check.due("and put right", x.count(0), 1);
        x = afterALoad();
        x.flip(166, 31);
        x.flip(166, 4);
        x.run(1);
        Check.due("two wrong bits are not seen", x.register(2), 7 ^ 1 << 31 ^ 16);
        Check.due("and no refetch", x.count(4), 0);
        x = afterALoad();
        x.flip(167, 6);
        x.run(1);
        Check.due("a line that is not asked for stays wrong", x.bits(167), 64);
        Check.due("and uncounted", x.count(4), 0);
    }

    private static void wrongParityOfInstructions() {
        Check.sentence("Terms, caches", "REFETCHED of this cache grows by 1");
        for (int bit = 0; bit < 38; bit++) {
            VotedCore x = Asm.core(Asm.jump(0, 0));
            x.run(1);
            x.flip(160, bit);
            x.run(1);
            Check.due("bit " + bit + ": it runs", x.cause(), 0);
            Check.due("bit " + bit + ": refetched of cache 0", x.count(3), 1);
            Check.due("bit " + bit + ": of cache 1", x.count(4), 0);
            Check.due("bit " + bit + ": the line", x.bits(160), line(Asm.jump(0, 0), 0));
            x.run(1);
            Check.due("bit " + bit + ": once", x.count(3), 1);
        }
    }

    private static void wrongParityOfEachLine() {
        Check.sentence("Terms, caches", "To FETCH word w through a cache: line w % 4 is dropped if its parity is wrong");
        for (int i = 0; i < 4; i++) {
            VotedCore x = new VotedCore(64);
            x.write(40 + i, Asm.load(2, 1, 0, 4 * (20 + i)));
            x.write(20 + i, 7);
            x.set(0, 4 * (40 + i));
            for (int part = 160; part < 168; part++) {
                x.flip(part, 9);
            }
            x.run(1);
            Check.due("refetched of cache 0, line " + i, x.count(3), 1);
            Check.due("refetched of cache 1, line " + i, x.count(4), 1);
            for (int other = 0; other < 4; other++) {
                Check.due("line " + other + " of cache 0", x.bits(160 + other) == 512, other != i);
                Check.due("line " + other + " of cache 1", x.bits(164 + other) == 512, other != i);
            }
            Check.due("the value", x.register(1), 7);
        }
    }

    private static void aFullLineIsUsed() {
        Check.sentence("Terms, caches", "if it is full then and its tag is w / 4, its value is it");
        VotedCore x = afterALoad();
        x.flip(10, 3);
        x.flip(10, 5);
        x.run(1);
        Check.due("the broken word is not read", x.cause(), 0);
        Check.due("the line's value", x.register(2), 7);
        x = afterALoad();
        x.flip(10, 3);
        x.run(1);
        Check.due("nothing is put right then", x.count(0), 0);
        x = Asm.core(Asm.jump(0, 0));
        x.run(1);
        x.flip(0, 3);
        x.flip(0, 5);
        x.run(1);
        Check.due("an instruction whose word is broken", x.cause(), 0);
    }

    private static void anEmptyLineIsNotUsed() {
        Check.sentence("Terms, caches", "if it is full then");
        // Words 0 .. 3 have the tag 0, which an empty line has too.
        for (int w = 0; w < 4; w++) {
            VotedCore x = new VotedCore(64);
            x.write(20, Asm.load(2, 1, 0, 4 * w));
            x.write(w, 500 + w);
            x.set(0, 80);
            x.run(1);
            Check.due("word " + w + " through an empty line", x.register(1), 500 + w);
            x = new VotedCore(64);
            x.write(w, Asm.add(1, 0, 600 + w));
            x.set(0, 4 * w);
            x.run(1);
            Check.due("instruction " + w + " through an empty line", x.register(1), 600 + w);
        }
        VotedCore x = afterALoad();
        x.flip(166, FULL);
        x.flip(166, 0);
        x.run(1);
        Check.due("a line of the right tag that is not full", x.register(2), 7);
        Check.due("it is filled anew", x.bits(166), line(7, 10));
        Check.due("its parity was not wrong", x.count(4), 0);
        x = afterALoad();
        x.write(20, 0);
        x.flip(166, FULL);
        x.flip(166, 33);
        x.run(1);
        Check.due("a line that faults alone made full", x.register(2), 0);
        Check.due("is no refetch", x.count(4), 0);
    }

    private static void anotherTagIsNotUsed() {
        Check.sentence("Terms, caches", "and its tag is w / 4");
        for (int bit = 32; bit < 36; bit++) {
            VotedCore x = afterALoad();
            x.flip(166, bit);
            x.flip(166, 0);
            x.run(1);
            Check.due("tag with bit " + bit + " wrong", x.register(2), 7);
            Check.due("the line is filled anew", x.bits(166), line(7, 10));
            Check.due("no refetch for it", x.count(4), 0);
        }
    }

    private static void anotherTagIsFetched() {
        Check.sentence("Terms, caches", "otherwise the word is read, and if it isn't broken the line gets its value, the tag w / 4, and is full");
        VotedCore x = Asm.core(Asm.load(2, 1, 0, 40), Asm.load(2, 2, 0, 56), Asm.load(2, 3, 0, 40));
        x.write(10, 7);
        x.write(14, 8);
        x.run(2);
        Check.due("word 14", x.register(2), 8);
        Check.due("has the line now", x.bits(166), line(8, 14));
        Check.due("which is no refetch", x.count(4), 0);
        x.run(1);
        Check.due("word 10 again", x.register(3), 7);
        Check.due("has it back", x.bits(166), line(7, 10));
        x = Asm.core(Asm.load(2, 1, 0, 40));
        x.write(10, 7);
        x.flip(10, 7);
        x.run(1);
        Check.due("a wrong bit is put right first", x.bits(166), line(7, 10));
        Check.due("and counted", x.count(0), 1);
    }

    private static void aBrokenWordLeavesTheLine() {
        Check.sentence("Terms, caches", "if it isn't broken");
        VotedCore x = Asm.core(Asm.load(2, 1, 0, 40), Asm.load(2, 2, 0, 56));
        x.write(10, 7);
        x.flip(14, 3);
        x.flip(14, 5);
        x.run(2);
        Check.due("it stops", x.cause(), 5);
        Check.due("for word 14", x.value(), 14);
        Check.due("the line holds word 10 still", x.bits(166), line(7, 10));
        x.flip(166, 0);
        x.resume(4);
        x.run(1);
        Check.due("a wrong line is dropped all the same", x.bits(166), 0);
        Check.due("and counted", x.count(4), 1);
        x = Asm.core(Asm.jump(0, 16));
        x.flip(4, 3);
        x.flip(4, 5);
        x.run(2);
        Check.due("a broken instruction", x.value(), 4);
        Check.due("leaves its line to word 0", x.bits(160), line(Asm.jump(0, 16), 0));
    }

    /** Has word 10 in both caches, as an instruction and as data, and comes to a store of register 5 there. */
    private static VotedCore beforeASave() {
        VotedCore x = Asm.core(Asm.load(2, 1, 0, 40), Asm.store(2, 5, 0, 40), Asm.NOP);
        x.write(10, Asm.jump(0, -36));
        x.set(5, 99);
        x.set(0, 40);
        x.run(1);
        x.set(0, 0);
        x.run(1);
        return x;
    }

    private static void savingWritesTheWord() {
        Check.sentence("Terms, caches", "To SAVE a value as word w: the word is written");
        VotedCore x = Asm.core(Asm.store(2, 5, 0, 40), Asm.store(2, 5, 0, 44), Asm.store(2, 5, 0, 252));
        x.set(5, -5);
        x.flip(10, 6);
        x.flip(10, 7);
        x.flip(11, 9);
        x.run(3);
        Check.due("a broken word is no matter", x.cause(), 0);
        Check.due("it is kept anew", x.look(10), 4294967291L);
        Check.due("a wrong one too", x.look(11), 4294967291L);
        Check.due("with its due bits", x.bits(11), x.bits(10));
        Check.due("the last word", x.look(63), 4294967291L);
        Check.due("nothing is put right", x.count(0), 0);
    }

    private static void savingDropsWrongLines() {
        Check.sentence("Terms, caches", "of both caches, 0 first, line w % 4 is dropped if its parity is wrong (as above)");
        VotedCore x = beforeASave();
        x.flip(162, 0);
        x.flip(166, PARITY);
        x.run(1);
        Check.due("dropped in cache 0", x.bits(162), 0);
        Check.due("dropped in cache 1", x.bits(166), 0);
        Check.due("counted of cache 0", x.count(3), 1);
        Check.due("counted of cache 1", x.count(4), 1);
        Check.due("the word has it", x.look(10), 99);
        x = beforeASave();
        x.flip(166, 1);
        x.run(1);
        Check.due("only cache 1 is wrong", 10 * x.count(3) + x.count(4), 1);
        Check.due("its line stays empty", x.bits(166), 0);
        x = beforeASave();
        x.flip(162, 1);
        x.run(1);
        Check.due("only cache 0 is wrong", 10 * x.count(3) + x.count(4), 10);
        Check.due("cache 1 gets the value", x.bits(166), line(99, 10));
        for (int i = 0; i < 4; i++) {
            int codeLine = (i + 1) % 4;
            x = new VotedCore(64);
            x.write(40 + codeLine, Asm.store(2, 5, 0, 4 * (20 + i)));
            x.set(0, 4 * (40 + codeLine));
            for (int part = 160; part < 168; part++) {
                // The instruction's own line stays right, so that only the saving counts.
                if (part != 160 + codeLine) {
                    x.flip(part, 9);
                }
            }
            x.run(1);
            Check.due("empty lines " + i + " that are wrong", x.bits(160 + i) + x.bits(164 + i), 0);
            Check.due("are counted", 10 * x.count(3) + x.count(4), 11);
            Check.due("other lines " + i + " that are wrong stay", x.bits(160 + (i + 2) % 4) + x.bits(164 + (i + 2) % 4), 1024);
        }
    }

    private static void savingIntoLines() {
        Check.sentence("Terms, caches", "then, if it is full and its tag is w / 4, the line of cache 0 is dropped, and that of cache 1 gets the value");
        VotedCore x = beforeASave();
        Check.due("before, in cache 0", x.bits(162), line(Asm.jump(0, -36), 10));
        Check.due("before, in cache 1", x.bits(166), line(Asm.jump(0, -36), 10));
        x.run(1);
        Check.due("the word", x.look(10), 99);
        Check.due("the line of cache 0 is dropped", x.bits(162), 0);
        Check.due("the line of cache 1 has it", x.bits(166), line(99, 10));
        Check.due("no refetch", x.count(3) + x.count(4), 0);
        x = beforeASave();
        x.flip(166, 1);
        x.flip(166, 2);
        x.run(1);
        Check.due("two wrong bits are overwritten", x.bits(166), line(99, 10));
        x = Asm.core(Asm.store(2, 5, 0, 4), Asm.CALL);
        x.set(5, Asm.BREAK);
        x.set(0, 4);
        x.run(1);
        x.resume(0);
        x.run(2);
        Check.due("an instruction that was saved is the one that is done", x.cause(), 4);
    }

    private static void savingLeavesOtherLines() {
        Check.sentence("Terms, caches", "if it is full and its tag is w / 4");
        VotedCore x = Asm.core(Asm.load(2, 1, 0, 40), Asm.store(2, 5, 0, 56), Asm.store(2, 5, 0, 60));
        x.write(10, 7);
        x.set(5, 99);
        x.run(2);
        Check.due("a line with another tag stays", x.bits(166), line(7, 10));
        Check.due("word 14", x.look(14), 99);
        x.run(1);
        Check.due("an empty line stays empty", x.bits(167), 0);
        Check.due("word 15", x.look(15), 99);
        x = Asm.core(Asm.NOP, Asm.store(2, 5, 0, 16));
        x.run(2);
        Check.due("a line of cache 0 with another tag stays", x.bits(160), line(Asm.NOP, 0));
        // Word 3 has the tag 0, which an empty line has too.
        x = Asm.core(Asm.store(2, 5, 0, 12));
        x.set(5, 99);
        x.run(1);
        Check.due("an empty line is none of tag 0", x.bits(163) + x.bits(167), 0);
        x = beforeASave();
        x.flip(162, FULL);
        x.flip(162, 0);
        x.flip(166, FULL);
        x.flip(166, 0);
        long line0 = x.bits(162);
        long line1 = x.bits(166);
        x.run(1);
        Check.due("a line of cache 0 that is not full stays", x.bits(162), line0);
        Check.due("a line of cache 1 that is not full stays", x.bits(166), line1);
    }
}
