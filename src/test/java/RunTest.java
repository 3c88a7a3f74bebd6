/** Promises 10 to 15: cycles, causes, resuming and counts. */
public final class RunTest {
    public static void main(String[] args) {
        promise10Run();
        promises11And12CauseAndValue();
        promise13Resume();
        promise14Cycles();
        promise15Count();
        scrubber();
        scrubberAfterAStop();
        vote();
        Check.end();
    }

    private static VotedCore looping(int every) {
        VotedCore x = new VotedCore(every);
        x.write(0, Asm.jump(0, 0));
        return x;
    }

    private static void promise10Run() {
        VotedCore x = looping(64);
        Check.due("run -1", x.run(-1), -1);
        Check.due("run 501", x.run(501), -1);
        Check.due("run the least", x.run(Integer.MIN_VALUE), -1);
        Check.due("run the greatest", x.run(Integer.MAX_VALUE), -1);
        Check.due("no cycle was done", x.cycles(), 0);
        Check.due("run 0", x.run(0), 0);
        Check.due("run 1", x.run(1), 1);
        Check.due("run 500", x.run(500), 500);
        Check.due("cycles", x.cycles(), 501);
        x = Asm.core(Asm.NOP, Asm.NOP, Asm.CALL);
        Check.due("the stopping cycle counts", x.run(500), 3);
        Check.due("none when stopped", x.run(500), 0);
        Check.due("run 0 when stopped", x.run(0), 0);
        Check.due("run 501 when stopped", x.run(501), -1);
        Check.due("run -1 when stopped", x.run(-1), -1);
        x = Asm.core(Asm.NOP, Asm.NOP, Asm.CALL);
        Check.due("up to the stop", x.run(2), 2);
        Check.due("it still runs", x.cause(), 0);
    }

    private static void promises11And12CauseAndValue() {
        stops("ADDRESS", Asm.jumpBy(0, 0, 6), 1, 6);
        stops("ILLEGAL", -1, 2, -1);
        stops("CALL", Asm.CALL, 3, 0);
        stops("BREAK", Asm.BREAK, 4, 0);
        VotedCore x = Asm.core(Asm.load(2, 1, 0, 40));
        x.flip(10, 1);
        x.flip(10, 2);
        x.run(1);
        Check.due("CHECK", x.cause(), 5);
        Check.due("its value", x.value(), 10);
        x.resume(0);
        Check.due("cause while it runs", x.cause(), 0);
        Check.due("value while it runs", x.value(), 0);
    }

    private static void stops(String name, int instruction, int cause, int value) {
        VotedCore x = Asm.core(Asm.NOP, instruction);
        x.run(1);
        Check.due(name + ": not yet", x.cause(), 0);
        Check.due(name + ": no value yet", x.value(), 0);
        Check.due(name + ": stops at once", x.run(3), 1);
        Check.due(name + ": cause", x.cause(), cause);
        Check.due(name + ": value", x.value(), value);
        Check.due(name + ": the place stays", x.register(0), 4);
    }

    private static void promise13Resume() {
        VotedCore x = Asm.core(Asm.CALL, Asm.NOP, Asm.NOP);
        Check.due("it runs", x.resume(4), false);
        Check.due("the place stays", x.register(0), 0);
        x.run(1);
        x.flip(64, 5);
        Check.due("it stopped", x.resume(4), true);
        for (int c = 0; c < 3; c++) {
            Check.due("copy " + c + " of the place", x.bits(64 + c), 4);
        }
        Check.due("it runs again", x.resume(8), false);
        Check.due("from there", x.register(0), 4);
        Check.due("cycles go on", x.cycles(), 1);
        x.run(1);
        Check.due("cycles went on", x.cycles(), 2);
        Check.due("the next place", x.register(0), 8);
        resumeAt(-4);
        resumeAt(3);
        resumeAt(256);
        resumeAt(Integer.MIN_VALUE);
        resumeAt(Integer.MAX_VALUE);
    }

    private static void resumeAt(int place) {
        VotedCore x = Asm.core(Asm.CALL);
        x.run(1);
        Check.due("resume " + place, x.resume(place), true);
        Check.due("place " + place, x.register(0), place);
        x.run(1);
        Check.due("cause at " + place, x.cause(), 1);
        Check.due("value at " + place, x.value(), place);
    }

    private static void promise14Cycles() {
        VotedCore x = looping(1);
        Check.due("at first", x.cycles(), 0);
        x.run(3);
        x.run(0);
        x.run(600);
        x.run(4);
        Check.due("seven", x.cycles(), 7);
        x.write(0, Asm.CALL);
        x.run(9);
        x.run(9);
        Check.due("eight, the stopping one too", x.cycles(), 8);
    }

    private static void promise15Count() {
        VotedCore x = looping(64);
        Check.due("count 6", x.count(6), -1);
        Check.due("count -1", x.count(-1), -1);
        Check.due("count of the greatest", x.count(Integer.MAX_VALUE), -1);
        Check.due("count of the least", x.count(Integer.MIN_VALUE), -1);
        x = Asm.core(Asm.load(2, 1, 0, 40), Asm.load(2, 1, 0, 40), Asm.CALL);
        x.flip(10, 4);
        x.flip(162, 0);
        x.run(1);
        Check.due("corrected", x.count(0), 1);
        Check.due("refetched of cache 1", x.count(4), 0);
        x.flip(166, 0);
        x.flip(161, 1);
        x.flip(70, 1);
        x.run(2);
        Check.due("corrected still", x.count(0), 1);
        Check.due("detected", x.count(1), 0);
        Check.due("voted", x.count(2), 1);
        Check.due("refetched of cache 0", x.count(3), 2);
        Check.due("refetched of cache 1", x.count(4), 1);
        Check.due("the scrubber's place", x.count(5), 0);
        x.resume(0);
        Check.due("counts go on", x.count(0), 1);
    }

    private static void scrubber() {
        VotedCore x = looping(2);
        x.flip(0, 9);
        x.flip(1, 0);
        x.flip(2, 7);
        x.flip(2, 30);
        x.flip(63, 38);
        x.run(1);
        Check.due("fetching corrects word 0", x.count(0), 1);
        x.run(1);
        Check.due("word 0 is good", x.count(0), 1);
        x.run(1);
        Check.due("its turn comes in every second cycle", x.count(5), 1);
        x.run(1);
        Check.due("word 1 is put right", x.count(0), 2);
        Check.due("where it is kept", x.bits(1), 0);
        Check.due("the next is word 2", x.count(5), 2);
        x.run(2);
        Check.due("word 2 is broken", x.count(1), 1);
        Check.due("it stays so", x.look(2), -2);
        Check.due("it is not corrected", x.count(0), 2);
        x.run(120);
        Check.due("the last place", x.count(5), 63);
        x.run(2);
        Check.due("behind it is 0", x.count(5), 0);
        Check.due("the last word is put right", x.bits(63), 0);
        Check.due("corrected", x.count(0), 3);
        x.run(6);
        Check.due("a broken word is detected again", x.count(1), 2);
        Check.due("it never stops for that", x.cause(), 0);
    }

    private static void scrubberAfterAStop() {
        VotedCore x = new VotedCore(1);
        x.flip(0, 1);
        x.flip(0, 2);
        Check.due("a broken instruction stops it", x.run(5), 1);
        Check.due("CHECK", x.cause(), 5);
        Check.due("of word 0", x.value(), 0);
        Check.due("reading it detects nothing, scrubbing it does", x.count(1), 1);
        Check.due("the place went on", x.count(5), 1);
        x.run(5);
        Check.due("no scrubbing while stopped", x.count(5), 1);
        VotedCore y = new VotedCore(3);
        y.run(1);
        y.resume(0);
        y.run(1);
        Check.due("two cycles of three", y.count(5), 0);
        y.resume(0);
        y.run(1);
        Check.due("the third, though each stopped", y.count(5), 1);
    }

    private static void vote() {
        VotedCore x = looping(64);
        for (int r = 0; r < 32; r++) {
            x.flip(64 + 3 * r + r % 3, r);
        }
        x.run(1);
        Check.due("every register was voted on", x.count(2), 32);
        for (int part = 64; part < 160; part++) {
            Check.due("part " + part, x.bits(part), 0);
        }
        x.run(1);
        Check.due("they are equal now", x.count(2), 32);
        for (int c = 0; c < 3; c++) {
            x.flip(64 + 3 * 5 + c, 3);
        }
        x.run(1);
        Check.due("three equal copies need no vote", x.count(2), 32);
        Check.due("though all are wrong", x.register(5), 8);
        for (int c = 0; c < 3; c++) {
            x.flip(64 + 3 * 6 + c, c);
        }
        x.run(1);
        Check.due("three that differ count once", x.count(2), 33);
        Check.due("bit by bit", x.register(6), 0);
        VotedCore y = Asm.core(Asm.NOP, Asm.NOP);
        y.flip(65, 2);
        y.run(1);
        Check.due("the place is voted on before it is used", y.register(0), 4);
        Check.due("and counts", y.count(2), 1);
    }
}
