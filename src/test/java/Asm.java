/** Makes instructions from their fields, so that tests can be read. */
final class Asm {
    static final int CALL = 115;
    static final int BREAK = 1048691;
    /** Adds 0 to register 0: goes on and changes nothing. */
    static final int NOP = 19;

    private Asm() {
    }

    static int withI(int op, int f, int d, int s, int i) {
        return i << 20 | s << 15 | f << 12 | d << 7 | op;
    }

    static int load(int f, int d, int s, int i) {
        return withI(3, f, d, s, i);
    }

    static int number(int f, int d, int s, int i) {
        return withI(19, f, d, s, i);
    }

    static int add(int d, int s, int i) {
        return number(0, d, s, i);
    }

    static int shift(int g, int f, int d, int s, int t) {
        return three(19, g, f, d, s, t);
    }

    static int registers(int g, int f, int d, int s, int t) {
        return three(51, g, f, d, s, t);
    }

    private static int three(int op, int g, int f, int d, int s, int t) {
        return g << 25 | t << 20 | s << 15 | f << 12 | d << 7 | op;
    }

    static int store(int f, int t, int s, int j) {
        return three(35, j >> 5, f, j & 31, s, t);
    }

    static int branch(int f, int s, int t, int k) {
        int high = (k >> 12 & 1) << 6 | k >> 5 & 63;
        int low = (k >> 1 & 15) << 1 | k >> 11 & 1;
        return three(99, high, f, low, s, t);
    }

    static int jump(int d, int l) {
        return (l >> 20 & 1) << 31 | (l >> 1 & 1023) << 21 | (l >> 11 & 1) << 20 | (l >> 12 & 255) << 12 | d << 7 | 111;
    }

    static int jumpBy(int d, int s, int i) {
        return withI(103, 0, d, s, i);
    }

    static int upper(int d, int u) {
        return u & ~0xFFF | d << 7 | 55;
    }

    static int upperFromPlace(int d, int u) {
        return u & ~0xFFF | d << 7 | 23;
    }

    /** A new object with these instructions from word 0 on, whose scrubber comes as rarely as can be. */
    static VotedCore core(int... instructions) {
        VotedCore core = new VotedCore(64);
        for (int w = 0; w < instructions.length; w++) {
            core.write(w, instructions[w]);
        }
        return core;
    }
}
