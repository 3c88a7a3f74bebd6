/** Promises 8 and 9: the plan of faults. */
public final class PlanTest {
    private static final int MIN = Integer.MIN_VALUE;
    private static final int MAX = Integer.MAX_VALUE;

    public static void main(String[] args) {
        faultsComeInTheirCycle();
        theNextCycle();
        everyPartMayBePlanned();
        planStaysWhileStopped();
        inIsNot1To1000();
        noSuchPart();
        noSuchBit();
        sixteenArePlanned();
        howManyArePlanned();
        Check.end();
    }

    private static VotedCore looping() {
        return Asm.core(Asm.jump(0, 0));
    }

    private static void faultsComeInTheirCycle() {
        Check.sentence("Promise 8", "Plans to flip a bit of a part in a cycle");
        for (int in : new int[] {1, 2, 3, 499, 500, 501, 999, 1000}) {
            VotedCore x = looping();
            Check.due("plan " + in, x.plan(in, 40, 3), true);
            Check.due("nothing is flipped yet", x.bits(40), 0);
            x.run(Math.min(in - 1, 500));
            x.run(Math.max(in - 501, 0));
            Check.due("before cycle " + in, x.bits(40), 0);
            x.run(1);
            Check.due("in cycle " + in, x.bits(40), 8);
            x.run(1);
            Check.due("once", x.bits(40), 8);
        }
        VotedCore x = looping();
        x.plan(1, 41, 7);
        x.plan(1, 41, 7);
        x.run(1);
        Check.due("the same fault twice undoes itself", x.bits(41), 0);
        x.plan(3, 42, 0);
        x.plan(2, 43, 0);
        x.run(2);
        Check.due("a later plan for an earlier cycle", x.bits(42) + 10 * x.bits(43), 10);
        x.run(1);
        Check.due("the other one", x.bits(42), 1);
        x.plan(1, 44, 1);
        x.run(0);
        Check.due("no cycle, no fault", x.bits(44), 0);
    }

    private static void theNextCycle() {
        Check.sentence("Promise 8", "1 is the next one");
        VotedCore x = looping();
        for (int before = 0; before < 20; before++) {
            x.plan(1, 30, 0);
            x.run(1);
            Check.due("after " + before + " cycles", x.bits(30), 1);
            x.flip(30, 0);
        }
        x.run(500);
        x.run(500);
        x.plan(1, 31, 38);
        x.plan(1000, 32, 38);
        x.run(1);
        Check.due("after 1020 cycles", x.bits(31), 1L << 38);
        x.run(500);
        x.run(498);
        Check.due("the last that may be waits", x.bits(32), 0);
        x.run(1);
        Check.due("and comes", x.bits(32), 1L << 38);
    }

    private static void everyPartMayBePlanned() {
        Check.sentence("Promise 8", "to flip a bit of a part");
        for (int part = 1; part < 168; part++) {
            // The vote puts a single copy right in the same cycle, so that it is planned for all three.
            boolean isCopy = part >= 67 && part < 160;
            if (part >= 64 && part < 67 || isCopy && (part - 64) % 3 != 0 || part == 160) {
                continue;
            }
            int last = part < 64 ? 38 : isCopy ? 31 : 37;
            VotedCore x = looping();
            for (int i = 0; i < (isCopy ? 3 : 1); i++) {
                Check.due("plan for part " + (part + i), x.plan(2, part + i, last), true);
            }
            x.run(2);
            for (int i = 0; i < (isCopy ? 3 : 1); i++) {
                Check.due("part " + (part + i), x.bits(part + i), 1L << last);
            }
        }
        VotedCore x = looping();
        x.run(1);
        x.plan(1, 160, 0);
        x.run(1);
        Check.due("the line of the instruction", x.count(3), 1);
        x = looping();
        for (int c = 0; c < 3; c++) {
            x.plan(1, 64 + c, 8);
        }
        x.run(1);
        Check.due("the place", x.value(), 256);
    }

    private static void planStaysWhileStopped() {
        Check.sentence("Promise 8", "(It stays planned while the computer is stopped.)");
        VotedCore x = Asm.core(Asm.CALL, Asm.NOP, Asm.NOP);
        x.plan(2, 40, 1);
        Check.due("it stops in the first cycle", x.run(10), 1);
        Check.due("plan while stopped", x.plan(2, 40, 2), true);
        Check.due("no cycles while stopped", x.run(10), 0);
        Check.due("nothing is flipped", x.bits(40), 0);
        Check.due("both stay planned", x.planned(), 2);
        x.resume(4);
        Check.due("resuming makes none", x.bits(40), 0);
        x.run(1);
        Check.due("cycle 2", x.bits(40), 2);
        x.run(1);
        Check.due("cycle 3", x.bits(40), 6);
        Check.due("none is left", x.planned(), 0);
    }

    private static void inIsNot1To1000() {
        Check.sentence("Promise 8", "False when in is not 1 .. 1000");
        VotedCore x = Whole.busy(false);
        Whole before = Whole.of(x);
        for (int in : new int[] {0, -1, 1001, -1000, 1002, 65537, MIN, MAX}) {
            Check.due("in " + in, x.plan(in, 0, 0), false);
        }
        before.stays("no plan", x);
        Check.due("in 1", x.plan(1, 0, 0), true);
        Check.due("in 1000", x.plan(1000, 0, 0), true);
        Check.due("two more", x.planned(), 4);
    }

    private static void noSuchPart() {
        Check.sentence("Promise 8", "there is no such part");
        VotedCore x = Whole.busy(true);
        Whole before = Whole.of(x);
        for (int part : new int[] {-1, 168, -168, 169, 256, MIN, MAX}) {
            Check.due("part " + part, x.plan(1, part, 0), false);
        }
        before.stays("no plan", x);
        Check.due("part 0", x.plan(1, 0, 0), true);
        Check.due("part 167", x.plan(1, 167, 0), true);
    }

    private static void noSuchBit() {
        Check.sentence("Promise 8", "or bit");
        int[] parts = {0, 63, 64, 159, 160, 163, 164, 167};
        int[] widths = {39, 39, 32, 32, 38, 38, 38, 38};
        for (int i = 0; i < parts.length; i++) {
            VotedCore x = looping();
            for (int bit : new int[] {widths[i], -1, widths[i] + 1, 64, MIN, MAX}) {
                Check.due("part " + parts[i] + ", bit " + bit, x.plan(1, parts[i], bit), false);
            }
            Check.due("none is planned", x.planned(), 0);
            Check.due("bit 0 of part " + parts[i], x.plan(1, parts[i], 0), true);
            Check.due("the last bit of part " + parts[i], x.plan(1, parts[i], widths[i] - 1), true);
            Check.due("two are planned", x.planned(), 2);
        }
    }

    private static void sixteenArePlanned() {
        Check.sentence("Promise 8", "or 16 faults are planned");
        VotedCore x = looping();
        for (int i = 0; i < 16; i++) {
            Check.due("plan " + i, x.plan(i == 15 ? 1 : 2, 20 + i, 0), true);
        }
        Check.due("one more", x.plan(1, 40, 0), false);
        Check.due("one more for another cycle", x.plan(1000, 40, 0), false);
        x.run(1);
        Check.due("one was made: there is room for one", x.plan(1, 41, 0), true);
        Check.due("and no more", x.plan(1, 42, 0), false);
        x.run(1);
        for (int i = 0; i < 16; i++) {
            Check.due("fault " + i, x.bits(20 + i), 1);
        }
        Check.due("the refused ones", x.bits(40) + x.bits(42), 0);
        Check.due("the late one", x.bits(41), 1);
        for (int i = 0; i < 16; i++) {
            Check.due("sixteen again: " + i, x.plan(1000, i, 0), true);
        }
        Check.due("but no more", x.plan(1, 50, 0), false);
    }

    private static void howManyArePlanned() {
        Check.sentence("Promise 9", "How many faults are planned.");
        VotedCore x = looping();
        Check.due("at first", x.planned(), 0);
        for (int i = 1; i <= 16; i++) {
            x.plan(1 + i % 2, 40, 0);
            Check.due("after " + i, x.planned(), i);
        }
        x.plan(1, 40, 0);
        Check.due("the refused one does not count", x.planned(), 16);
        x.flip(41, 0);
        Check.due("a flip is no plan", x.planned(), 16);
        x.run(0);
        Check.due("no cycle", x.planned(), 16);
        x.run(1);
        Check.due("those of the next cycle were made", x.planned(), 8);
        x.run(1);
        Check.due("all were made", x.planned(), 0);
    }
}
