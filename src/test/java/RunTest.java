/** Promises 10 to 15: running, causes, resuming and counts; and an object's last calls. */
public final class RunTest {
    private static final int MIN = Integer.MIN_VALUE;
    private static final int MAX = Integer.MAX_VALUE;

    public static void main(String[] args) {
        doesCycles();
        untilItStops();
        thatOneCounts();
        noneWhenStopped();
        badNumberOfCycles();
        causes();
        noCauseWhileItRuns();
        values();
        noValueWhileItRuns();
        resumes();
        resumesAnywhere();
        countsGoOn();
        noResumeWhileItRuns();
        cyclesDone();
        counts();
        noSuchCount();
        atMost512Calls();
        manyCycles();
        Check.end();
    }

    private static VotedCore looping(int every) {
        VotedCore x = new VotedCore(every);
        x.write(0, Asm.jump(0, 0));
        return x;
    }

    private static void doesCycles() {
        Check.sentence("Promise 10", "Does n cycles");
        VotedCore x = looping(64);
        int due = 0;
        for (int n : new int[] {0, 1, 2, 63, 64, 127, 128, 255, 256, 499, 500, 500, 0}) {
            Check.due("run " + n, x.run(n), n);
            due += n;
            Check.due("cycles after run " + n, x.cycles(), due);
        }
        x = Whole.busy(false);
        Whole before = Whole.of(x);
        Check.due("run 0", x.run(0), 0);
        before.stays("run 0 does nothing", x);
    }

    private static void untilItStops() {
        Check.sentence("Promise 10", "or as many as there are until it stops");
        VotedCore x = Asm.core(Asm.NOP, Asm.NOP, Asm.CALL, Asm.NOP);
        Check.due("up to the stop", x.run(2), 2);
        Check.due("it still runs", x.cause(), 0);
        Check.due("the rest", x.run(2), 1);
        Check.due("it stopped", x.cause(), 3);
        Check.due("there", x.register(0), 8);
    }

    private static void thatOneCounts() {
        Check.sentence("Promise 10", "(that one counts;");
        for (int first = 1; first <= 4; first++) {
            VotedCore x = new VotedCore(64);
            for (int w = 0; w < first; w++) {
                x.write(w, w == first - 1 ? Asm.BREAK : Asm.NOP);
            }
            Check.due("it stops in cycle " + first, x.run(500), first);
            Check.due("cycles", x.cycles(), first);
        }
        VotedCore x = Asm.core(Asm.NOP, Asm.NOP, Asm.CALL);
        Check.due("it stops in the last cycle asked for", x.run(3), 3);
        Check.due("with its cause", x.cause(), 3);
    }

    private static void noneWhenStopped() {
        Check.sentence("Promise 10", "none when it does not run)");
        VotedCore x = Asm.core(Asm.CALL, Asm.NOP);
        x.run(1);
        for (int n : new int[] {0, 1, 500}) {
            Check.due("run " + n, x.run(n), 0);
        }
        Check.due("cycles", x.cycles(), 1);
        Check.due("cause", x.cause(), 3);
    }

    private static void badNumberOfCycles() {
        Check.sentence("Promise 10", "BAD when n is not 0 .. 500.");
        for (int i = 0; i < 2; i++) {
            VotedCore x = Whole.busy(i == 1);
            Whole before = Whole.of(x);
            for (int n : new int[] {-1, 501, -500, 502, 1000, 65536, MIN, MAX}) {
                Check.due("run " + n, x.run(n), -1);
            }
            before.stays("no cycle", x);
        }
    }

    /** Stops with the cause, which is 1 to 5. */
    private static VotedCore stopped(int cause) {
        int[] stopping = {Asm.jumpBy(0, 0, 6), -1, Asm.CALL, Asm.BREAK, Asm.load(2, 1, 0, 40)};
        VotedCore x = Asm.core(Asm.NOP, stopping[cause - 1]);
        x.flip(10, 1);
        x.flip(10, 2);
        x.run(2);
        return x;
    }

    private static void causes() {
        Check.sentence("Promise 11", "0 while it runs, else the cause.");
        for (int cause = 1; cause <= 5; cause++) {
            VotedCore x = stopped(cause);
            Check.due("cause " + cause, x.cause(), cause);
            x.write(10, 0);
            x.set(1, 1);
            x.set(0, 0);
            x.flip(1, 1);
            x.run(1);
            Check.due("it stays stopped with " + cause, x.cause(), cause);
        }
    }

    private static void noCauseWhileItRuns() {
        Check.sentence("Promise 11", "0 while it runs");
        VotedCore x = Asm.core(Asm.NOP, Asm.CALL);
        Check.due("at first", x.cause(), 0);
        x.run(1);
        Check.due("after a cycle", x.cause(), 0);
        for (int cause = 1; cause <= 5; cause++) {
            VotedCore y = stopped(cause);
            y.resume(0);
            Check.due("resumed from " + cause, y.cause(), 0);
        }
    }

    private static void values() {
        Check.sentence("Promise 12", "The value told with the cause");
        int[] due = {6, -1, 0, 0, 10};
        for (int cause = 1; cause <= 5; cause++) {
            VotedCore x = stopped(cause);
            Check.due("value of cause " + cause, x.value(), due[cause - 1]);
            x.write(10, 0);
            x.run(1);
            Check.due("it stays, cause " + cause, x.value(), due[cause - 1]);
        }
        VotedCore x = stopped(2);
        x.resume(4);
        x.write(1, Asm.CALL);
        x.run(1);
        Check.due("the next stop has its own", x.value(), 0);
    }

    private static void noValueWhileItRuns() {
        Check.sentence("Promise 12", "The value told with the cause; 0 while it runs.");
        VotedCore x = Asm.core(Asm.NOP, -1);
        Check.due("at first", x.value(), 0);
        x.run(1);
        Check.due("after a cycle", x.value(), 0);
        for (int cause = 1; cause <= 5; cause++) {
            VotedCore y = stopped(cause);
            y.resume(0);
            Check.due("resumed from " + cause, y.value(), 0);
            y.run(1);
            Check.due("and after a cycle", y.value(), 0);
        }
    }

    private static void resumes() {
        Check.sentence("Promise 13", "Runs again, with this place");
        for (int cause = 1; cause <= 5; cause++) {
            VotedCore x = stopped(cause);
            x.flip(64, 5);
            Check.due("resume from " + cause, x.resume(0), true);
            for (int c = 0; c < 3; c++) {
                Check.due("copy " + c + " of the place", x.bits(64 + c), 0);
            }
            Check.due("it runs", x.run(1), 1);
            Check.due("from there", x.register(0), 4);
        }
        VotedCore x = Whole.busy(true);
        Whole before = Whole.of(x);
        x.resume(16);
        before.staysWhenResumed(x);
    }

    private static void resumesAnywhere() {
        Check.sentence("Promise 13", "(any;");
        for (int place : new int[] {-4, -1, 1, 2, 3, 255, 256, MIN, MAX}) {
            VotedCore x = stopped(3);
            Check.due("resume " + place, x.resume(place), true);
            Check.due("place " + place, x.register(0), place);
            Check.due("it runs", x.cause(), 0);
            Check.due("one cycle", x.run(5), 1);
            Check.due("cause at " + place, x.cause(), 1);
            Check.due("value at " + place, x.value(), place);
        }
        VotedCore x = stopped(3);
        x.resume(252);
        x.run(1);
        Check.due("the last word", x.cause(), 2);
    }

    private static void countsGoOn() {
        Check.sentence("Promise 13", "cycles and counts go on)");
        VotedCore x = new VotedCore(1);
        x.write(0, Asm.CALL);
        x.flip(0, 4);
        x.flip(1, 3);
        x.flip(1, 5);
        x.flip(70, 3);
        x.flip(160, 3);
        x.run(1);
        x.resume(0);
        x.flip(164, 3);
        x.write(0, Asm.load(2, 1, 0, 16));
        x.flip(164, 3);
        x.run(1);
        x.set(0, 2);
        x.run(1);
        int[] before = new int[6];
        for (int what = 0; what < 6; what++) {
            before[what] = x.count(what);
            Check.due("count " + what + " has grown", before[what] > 0, true);
        }
        Check.due("resume", x.resume(0), true);
        for (int what = 0; what < 6; what++) {
            Check.due("count " + what, x.count(what), before[what]);
        }
        Check.due("cycles", x.cycles(), 3);
        x.run(1);
        Check.due("cycles go on", x.cycles(), 4);
        Check.due("the scrubber goes on", x.count(5), before[5] + 1);
    }

    private static void noResumeWhileItRuns() {
        Check.sentence("Promise 13", "false when it runs");
        VotedCore x = Whole.busy(false);
        Whole before = Whole.of(x);
        for (int place : new int[] {0, 4, -1, MIN, MAX}) {
            Check.due("resume " + place, x.resume(place), false);
        }
        before.stays("no resume", x);
        x = stopped(3);
        Check.due("once", x.resume(4), true);
        Check.due("not twice", x.resume(8), false);
        Check.due("the place of the first", x.register(0), 4);
    }

    private static void cyclesDone() {
        Check.sentence("Promise 14", "How many cycles were done.");
        VotedCore x = looping(1);
        Check.due("at first", x.cycles(), 0);
        x.run(3);
        x.run(0);
        x.run(600);
        x.run(-4);
        x.run(4);
        Check.due("seven", x.cycles(), 7);
        x.write(0, Asm.CALL);
        x.run(9);
        x.run(9);
        Check.due("eight, the stopping one too", x.cycles(), 8);
    }

    private static void counts() {
        Check.sentence("Promise 15", "0 CORRECTED, 1 DETECTED, 2 VOTED, 3 and 4 REFETCHED of cache 0 and 1, 5 the scrubber's place");
        for (int what = 0; what < 6; what++) {
            VotedCore x = new VotedCore(what == 1 || what == 5 ? 1 : 64);
            x.write(10, Asm.load(2, 1, 0, 80));
            x.set(0, 40);
            int[] parts = {20, 0, 67, 162, 164};
            if (what < 5) {
                x.flip(parts[what], 9);
            }
            if (what == 1) {
                x.flip(0, 10);
            }
            x.run(1);
            for (int other = 0; other < 5; other++) {
                Check.due("count " + other + " where " + what + " is meant", x.count(other), other == what ? 1 : 0);
            }
            Check.due("the scrubber's place", x.count(5), what == 1 || what == 5 ? 1 : 0);
        }
    }

    private static void noSuchCount() {
        Check.sentence("Promise 15", "BAD for another number.");
        VotedCore x = Whole.busy(false);
        for (int what : new int[] {-1, 6, 7, -5, 64, MIN, MAX}) {
            Check.due("count " + what, x.count(what), -1);
        }
        Check.due("count 5", x.count(5), 1);
    }

    private static void atMost512Calls() {
        Check.sentence("What it is", "An object is used for at most 512 calls after it has been made");
        VotedCore x = looping(1);
        for (int call = 2; call < 512; call++) {
            x.flip(1, 0);
        }
        Check.due("flips, and a 512th call", x.bits(1), 0);
        x = looping(1);
        for (int call = 2; call < 512; call++) {
            x.write(63, call);
        }
        Check.due("writes, and a 512th call", x.look(63), 511);
        x = looping(1);
        for (int call = 2; call < 512; call += 2) {
            x.flip(70, 0);
            x.run(1);
        }
        Check.due("votes, and a 512th call", x.count(2), 255);
        x = new VotedCore(1);
        for (int call = 1; call < 511; call += 2) {
            x.run(1);
            x.resume(0);
        }
        x.run(1);
        Check.due("stops, and a 512th call", x.cycles(), 256);
        x = looping(64);
        for (int call = 2; call < 512; call++) {
            x.plan(1, 1, 1);
        }
        Check.due("plans, and a 512th call", x.planned(), 16);
    }

    private static void manyCycles() {
        Check.sentence("What it is", "An object is used for at most 512 calls");
        VotedCore x = looping(1);
        for (int call = 2; call < 511; call++) {
            Check.due("run", x.run(500), 500);
        }
        Check.due("500 cycles in each of 509 calls", x.cycles(), 254500);
        Check.due("one more call", x.run(500), 500);
        x = looping(1);
        x.run(1);
        // The instruction is in its line, so that it is done though all words are broken.
        for (int w = 0; w < 64; w++) {
            x.flip(w, 0);
            x.flip(w, 38);
        }
        for (int call = 131; call < 507; call++) {
            x.run(500);
        }
        Check.due("a late plan", x.plan(500, 70, 0), true);
        Check.due("is planned", x.planned(), 1);
        x.run(500);
        Check.due("and made", x.planned(), 0);
        Check.due("and voted on", x.count(2), 1);
        Check.due("a broken word in each cycle", x.count(1), 188500);
    }
}
