/** Promises 8 and 9: the plan of faults. */
public final class PlanTest {
    public static void main(String[] args) {
        faultsComeInTheirCycle();
        wrongInputs();
        sixteenAtMost();
        planStaysWhileStopped();
        faultsComeBeforeTheVoteAndTheInstruction();
        planIsCountedFromTheCyclesDone();
        Check.end();
    }

    private static VotedCore looping() {
        return Asm.core(Asm.jump(0, 0));
    }

    private static void faultsComeInTheirCycle() {
        VotedCore x = looping();
        Check.due("plan for the next cycle", x.plan(1, 40, 3), true);
        Check.due("plan for the third", x.plan(3, 41, 38), true);
        Check.due("plan for the third, a line", x.plan(3, 167, 37), true);
        Check.due("plan for the last that may be", x.plan(1000, 42, 0), true);
        Check.due("planned", x.planned(), 4);
        Check.due("nothing is flipped yet", x.bits(40), 0);
        x.run(0);
        Check.due("no cycle, no fault", x.planned(), 4);
        x.run(1);
        Check.due("planned after the first", x.planned(), 3);
        Check.due("the first is made", x.bits(40), 8);
        x.run(1);
        Check.due("planned after the second", x.planned(), 3);
        Check.due("the third cycle's wait", x.bits(41) + x.bits(167), 0);
        x.run(1);
        Check.due("planned after the third", x.planned(), 1);
        Check.due("a word's last bit", x.bits(41), 1L << 38);
        Check.due("a line's last bit", x.bits(167), 1L << 37);
        x.run(500);
        x.run(496);
        Check.due("before cycle 1000", x.bits(42) + x.planned(), 1);
        x.run(1);
        Check.due("in cycle 1000", x.bits(42), 1);
        Check.due("planned at the end", x.planned(), 0);
    }

    private static void wrongInputs() {
        VotedCore x = looping();
        Check.due("in 0", x.plan(0, 0, 0), false);
        Check.due("in -1", x.plan(-1, 0, 0), false);
        Check.due("in 1001", x.plan(1001, 0, 0), false);
        Check.due("in the greatest", x.plan(Integer.MAX_VALUE, 0, 0), false);
        Check.due("in the least", x.plan(Integer.MIN_VALUE, 0, 0), false);
        Check.due("part -1", x.plan(1, -1, 0), false);
        Check.due("part 168", x.plan(1, 168, 0), false);
        Check.due("bit -1", x.plan(1, 0, -1), false);
        Check.due("bit 39 of a word", x.plan(1, 63, 39), false);
        Check.due("bit 32 of a copy", x.plan(1, 64, 32), false);
        Check.due("bit 32 of the last copy", x.plan(1, 159, 32), false);
        Check.due("bit 38 of a line", x.plan(1, 160, 38), false);
        Check.due("bit 38 of the last line", x.plan(1, 167, 38), false);
        Check.due("none is planned", x.planned(), 0);
        Check.due("bit 38 of a word", x.plan(1, 63, 38), true);
        Check.due("bit 31 of a copy", x.plan(1, 159, 31), true);
        Check.due("bit 37 of a line", x.plan(1, 160, 37), true);
        Check.due("three are planned", x.planned(), 3);
    }

    private static void sixteenAtMost() {
        VotedCore x = looping();
        for (int i = 0; i < 16; i++) {
            Check.due("plan " + i, x.plan(1 + i % 2, 20 + i, 0), true);
        }
        Check.due("plan one more", x.plan(5, 40, 0), false);
        Check.due("planned", x.planned(), 16);
        x.run(1);
        Check.due("half of them were made", x.planned(), 8);
        Check.due("there is room again", x.plan(1, 40, 0), true);
        x.run(1);
        Check.due("the rest was made", x.planned(), 0);
        for (int i = 0; i < 16; i++) {
            Check.due("fault " + i, x.bits(20 + i), 1);
        }
        Check.due("the late one", x.bits(40), 1);
        Check.due("the same fault twice", x.plan(1, 41, 7) && x.plan(1, 41, 7), true);
        Check.due("counts twice", x.planned(), 2);
        x.run(1);
        Check.due("and undoes itself", x.bits(41), 0);
    }

    private static void planStaysWhileStopped() {
        VotedCore x = Asm.core(Asm.CALL, Asm.NOP, Asm.NOP);
        x.plan(2, 40, 1);
        Check.due("it stops in the first cycle", x.run(10), 1);
        Check.due("plan while stopped", x.plan(2, 40, 2), true);
        Check.due("no cycles while stopped", x.run(10), 0);
        Check.due("both stay planned", x.planned(), 2);
        x.resume(4);
        x.run(1);
        Check.due("cycle 2", x.bits(40), 2);
        x.run(1);
        Check.due("cycle 3", x.bits(40), 6);
        Check.due("none is left", x.planned(), 0);
    }

    private static void faultsComeBeforeTheVoteAndTheInstruction() {
        VotedCore x = Asm.core(Asm.add(2, 1, 0), Asm.add(3, 1, 0), Asm.NOP);
        x.set(1, 1);
        x.plan(1, 67, 0);
        x.run(1);
        Check.due("a wrong copy was outvoted in its cycle", x.bits(67), 1);
        Check.due("voted", x.count(2), 1);
        Check.due("the instruction saw the value", x.register(2), 1);
        x.plan(1, 67, 0);
        x.plan(1, 69, 0);
        x.run(1);
        Check.due("two wrong copies are the value", x.bits(68), 0);
        Check.due("which the instruction saw", x.register(3), 0);
        // Bit 26 of the word is bit 20 of its value: 1 is added instead of 0, if it is not put right.
        VotedCore y = Asm.core(Asm.add(2, 1, 0), Asm.NOP);
        y.plan(1, 0, 26);
        y.run(1);
        Check.due("the word was flipped before it was read", y.count(0), 1);
        Check.due("and put right", y.register(2), 0);
    }

    private static void planIsCountedFromTheCyclesDone() {
        VotedCore x = looping();
        x.run(7);
        x.plan(1, 30, 0);
        x.run(1);
        Check.due("the next cycle is number 8", x.bits(30), 1);
    }
}
