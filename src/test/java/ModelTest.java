/**
 * Runs of made-up calls on VotedCore and on PlainModel, compared in every answer and at the end in all that is stored.
 * The numbers come from a fixed sequence: every run of this test is the same. An object is asked fewer than 512 times,
 * because the document promises nothing behind that.
 */
public final class ModelTest {
    private static final int OBJECTS = 12000;
    private static final int CALLS = 30;
    private static final int[] OPS = {55, 23, 111, 103, 99, 3, 3, 3, 35, 35, 35, 19, 19, 51, 51, 15, 115};
    private static final int[] EDGES = {0, 1, -1, 2, 31, 32, 63, 64, 255, 256, Integer.MIN_VALUE, Integer.MAX_VALUE, 500, 501, 1000, 1001};

    private static long state = 20261115;
    private static final long[] causes = new long[6];

    public static void main(String[] args) {
        for (int i = 0; i < OBJECTS; i++) {
            compareOneObject(i);
        }
        for (int cause = 0; cause < causes.length; cause++) {
            Check.due("cause " + cause + " was met", causes[cause] > 100, true);
        }
        Check.end();
    }

    private static int next(int bound) {
        state = state * 6364136223846793005L + 1442695040888963407L;
        return (int) ((state >>> 33) % bound);
    }

    private static int anyNumber() {
        state = state * 6364136223846793005L + 1442695040888963407L;
        return next(3) == 0 ? EDGES[next(EDGES.length)] : (int) (state >>> 32);
    }

    private static int within(int bound) {
        return next(12) == 0 ? anyNumber() : next(bound);
    }

    private static int smallPlace() {
        return next(8) == 0 ? next(300) - 20 : 4 * next(64);
    }

    /** An instruction that mostly is a legal one, with small numbers and few registers. */
    private static int instruction() {
        int op = OPS[next(OPS.length)];
        int code = op | next(6) << 7 | next(8) << 12 | next(6) << 15;
        switch (next(10) == 0 ? 0 : op) {
            case 111: return Asm.jump(next(6), 4 * (next(16) - 6));
            case 99: return Asm.branch(next(20) == 0 ? next(8) : new int[] {0, 1, 4, 5, 6, 7}[next(6)], next(6), next(6), 4 * (next(16) - 6));
            case 103: return Asm.jumpBy(next(6), next(3), smallPlace());
            case 3: return Asm.load(new int[] {0, 1, 2, 4, 5}[next(5)], next(6), next(3), next(4) == 0 ? next(256) : 4 * next(64));
            case 35: return Asm.store(next(3), next(6), next(3), next(4) == 0 ? next(256) : 4 * next(64));
            case 19: return withNumber(next(8));
            case 51: return Asm.registers(next(2) * 32, next(8), next(6), next(6), next(6));
            case 115: return next(2) == 0 ? Asm.CALL : Asm.BREAK;
            default: return code | next(4096) << 20;
        }
    }

    private static int withNumber(int f) {
        boolean isShift = f == 1 || f == 5;
        return isShift
            ? Asm.shift(f == 5 ? 32 * next(2) : 0, f, next(6), next(6), next(32))
            : Asm.number(f, next(6), next(6), next(64) - 32);
    }

    private static int part() {
        int kind = next(8);
        if (kind == 0) {
            return within(168);
        }
        return kind < 4 ? next(64) : kind < 6 ? 64 + next(24) : 160 + next(8);
    }

    private static void compareOneObject(int object) {
        int every = within(next(2) == 0 ? 4 : 65);
        VotedCore x = new VotedCore(every);
        PlainModel y = new PlainModel(every);
        for (int w = 0; w < 64; w++) {
            int code = next(6) == 0 ? anyNumber() : instruction();
            x.write(w, code);
            y.write(w, code);
        }
        breakSomeWords(x, y);
        for (int i = 0; i < CALLS; i++) {
            String call = oneCall(x, y);
            compareStop("object " + object + ", call " + i + " (" + call + ")", x, y);
        }
        compareStored("object " + object, x, y);
    }

    private static void breakSomeWords(VotedCore x, PlainModel y) {
        for (int i = 0; i < 6; i++) {
            int w = next(64);
            int bit = next(38);
            Check.due("flip " + w + ", " + bit, x.flip(w, bit), y.flip(w, bit));
            Check.due("flip " + w + ", 38", x.flip(w, 38), y.flip(w, 38));
        }
    }

    private static String oneCall(VotedCore x, PlainModel y) {
        int a;
        int b;
        int c;
        String call;
        switch (next(11)) {
            case 0:
                a = within(64);
                b = next(2) == 0 ? instruction() : anyNumber();
                call = "write " + a + ", " + b;
                Check.due(call, x.write(a, b), y.write(a, b));
                return call;
            case 1:
                a = within(8);
                b = next(2) == 0 ? smallPlace() : anyNumber();
                call = "set " + a + ", " + b;
                Check.due(call, x.set(a, b), y.set(a, b));
                return call;
            case 2:
            case 3:
            case 4:
                a = part();
                b = within(next(3) == 0 ? 39 : 6);
                call = "flip " + a + ", " + b;
                Check.due(call, x.flip(a, b), y.flip(a, b));
                return call;
            case 5:
            case 6:
                a = within(12);
                b = part();
                c = within(next(3) == 0 ? 39 : 6);
                call = "plan " + a + ", " + b + ", " + c;
                Check.due(call, x.plan(a, b, c), y.plan(a, b, c));
                return call;
            case 7:
            case 8:
                a = smallPlace();
                call = "resume " + a;
                Check.due(call, x.resume(a), y.resume(a));
                return call;
            default:
                a = within(next(4) == 0 ? 40 : 5);
                call = "run " + a;
                Check.due(call, x.run(a), y.run(a));
                causes[y.cause]++;
                return call;
        }
    }

    private static void compareStop(String where, VotedCore x, PlainModel y) {
        Check.due(where + ": cause", x.cause(), y.cause);
        Check.due(where + ": value", x.value(), y.value);
        Check.due(where + ": place", x.register(0), y.register(0));
    }

    private static void compareStored(String where, VotedCore x, PlainModel y) {
        for (int part = -1; part <= 168; part++) {
            Check.due(where + ": bits " + part, x.bits(part), y.bits(part));
        }
        for (int w = -1; w <= 64; w++) {
            Check.due(where + ": look " + w, x.look(w), y.look(w));
        }
        for (int r = -1; r <= 32; r++) {
            Check.due(where + ": register " + r, x.register(r), y.register(r));
        }
        for (int what = -1; what <= 6; what++) {
            Check.due(where + ": count " + what, x.count(what), y.count(what));
        }
        Check.due(where + ": planned", x.planned(), y.planned());
        Check.due(where + ": cycles", x.cycles(), y.cycles);
    }
}
