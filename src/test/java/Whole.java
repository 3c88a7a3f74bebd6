/** All that an object tells of its state, so that a test can say what a call left as it was. It takes 178 calls. */
final class Whole {
    private static final int PARTS = 168;
    private static final int COUNTS = 6;
    private static final int PLANNED = PARTS + COUNTS;
    private static final int CYCLES = PLANNED + 1;
    private static final int CAUSE = PLANNED + 2;
    private static final int VALUE = PLANNED + 3;

    private final long[] told;

    private Whole(long[] told) {
        this.told = told;
    }

    static Whole of(VotedCore x) {
        long[] told = new long[VALUE + 1];
        for (int part = 0; part < PARTS; part++) {
            told[part] = x.bits(part);
        }
        for (int what = 0; what < COUNTS; what++) {
            told[PARTS + what] = x.count(what);
        }
        told[PLANNED] = x.planned();
        told[CYCLES] = x.cycles();
        told[CAUSE] = x.cause();
        told[VALUE] = x.value();
        return new Whole(told);
    }

    /** The part, or the call, that is told at this place. */
    private static String name(int i) {
        if (i < PARTS) {
            return "bits " + i;
        }
        if (i < PLANNED) {
            return "count " + (i - PARTS);
        }
        return i == PLANNED ? "planned" : i == CYCLES ? "cycles" : i == CAUSE ? "cause" : "value";
    }

    /** Asks the object again, and finds all as it was. */
    void stays(String what, VotedCore x) {
        staysBut(what, x, -1, -1);
    }

    /** The same, but for the parts from one to another. */
    void staysBut(String what, VotedCore x, int first, int last) {
        Whole now = of(x);
        for (int i = 0; i < told.length; i++) {
            if (i < first || i > last) {
                Check.due(what + ": " + name(i), now.told[i], told[i]);
            }
        }
    }

    /** What resuming leaves: all but the place, the cause and the value. */
    void staysWhenResumed(VotedCore x) {
        told[CAUSE] = 0;
        told[VALUE] = 0;
        staysBut("resumed", x, 64, 66);
    }

    /**
     * An object in which nothing is as at first: words that are good, wrong and broken, lines that are full and wrong,
     * copies that differ, faults planned, cycles done.
     */
    static VotedCore busy(boolean stopped) {
        VotedCore x = new VotedCore(3);
        x.write(0, Asm.load(2, 1, 0, 40));
        x.write(1, Asm.load(2, 2, 0, 44));
        x.write(2, Asm.add(3, 3, 1));
        x.write(3, Asm.CALL);
        x.write(10, -123456);
        x.write(11, 7);
        x.write(63, 99);
        x.flip(20, 0);
        x.flip(63, 38);
        x.flip(30, 3);
        x.flip(30, 5);
        x.flip(0, 4);
        x.flip(1, 4);
        x.flip(1, 5);
        x.flip(1, 4);
        x.set(31, -1);
        x.flip(159, 31);
        x.run(stopped ? 4 : 3);
        x.flip(163, 1);
        x.flip(166, 36);
        x.flip(66, 1);
        x.flip(70, 30);
        x.plan(1, 5, 5);
        x.plan(900, 167, 37);
        return x;
    }
}
