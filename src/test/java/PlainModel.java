import java.util.ArrayList;
import java.util.List;

/**
 * A second reading of the document, written without looking at speed: every part is a row of bits, and every rule
 * is done bit by bit in the document's own order. It shares nothing with VotedCore.
 */
final class PlainModel {
    private static final long NONE = -2;

    final boolean[][] parts = new boolean[168][];
    private final List<int[]> faults = new ArrayList<>();
    private final int every;
    final int[] counts = new int[6];
    int cycles;
    int cause;
    int value;

    PlainModel(int asked) {
        every = asked < 1 ? 1 : asked > 64 ? 64 : asked;
        for (int part = 0; part < 168; part++) {
            parts[part] = new boolean[part < 64 ? 39 : part < 160 ? 32 : 38];
        }
    }

    boolean write(int w, int v) {
        if (w < 0 || w > 63) {
            return false;
        }
        keep(w, v);
        for (int line = 160; line < 168; line++) {
            drop(line);
        }
        return true;
    }

    boolean set(int r, int v) {
        if (r < 0 || r > 31) {
            return false;
        }
        for (int copy = 64 + 3 * r; copy < 67 + 3 * r; copy++) {
            for (int i = 0; i < 32; i++) {
                parts[copy][i] = (v >>> i & 1) == 1;
            }
        }
        return true;
    }

    int register(int r) {
        int v = 0;
        for (int i = 0; r >= 0 && r < 32 && i < 32; i++) {
            int ayes = 0;
            for (int c = 0; c < 3; c++) {
                ayes += parts[64 + 3 * r + c][i] ? 1 : 0;
            }
            v |= (ayes >= 2 ? 1 : 0) << i;
        }
        return v;
    }

    long look(int w) {
        if (w < 0 || w > 63) {
            return -1;
        }
        boolean[] right = parts[w].clone();
        int wrong = wrongBit(right);
        if (wrong == 99) {
            return NONE;
        }
        if (wrong >= 0) {
            right[wrong] = !right[wrong];
        }
        return valueOf(right);
    }

    long bits(int part) {
        return part < 0 || part > 167 ? -1 : number(parts[part], 0, parts[part].length);
    }

    boolean flip(int part, int bit) {
        if (part < 0 || part > 167 || bit < 0 || bit >= parts[part].length) {
            return false;
        }
        parts[part][bit] = !parts[part][bit];
        return true;
    }

    boolean plan(int in, int part, int bit) {
        if (in < 1 || in > 1000 || part < 0 || part > 167 || bit < 0 || bit >= parts[part].length || faults.size() == 16) {
            return false;
        }
        faults.add(new int[] {in, part, bit});
        return true;
    }

    int planned() {
        return faults.size();
    }

    int run(int n) {
        if (n < 0 || n > 500) {
            return -1;
        }
        for (int i = 0; i < n; i++) {
            if (cause != 0) {
                return i;
            }
            cycle();
        }
        return n;
    }

    boolean resume(int place) {
        if (cause == 0) {
            return false;
        }
        cause = 0;
        value = 0;
        return set(0, place);
    }

    int count(int what) {
        return what < 0 || what > 5 ? -1 : counts[what];
    }

    private void cycle() {
        cycles++;
        for (int i = 0; i < faults.size(); i++) {
            int[] fault = faults.get(i);
            fault[0]--;
            if (fault[0] == 0) {
                flip(fault[1], fault[2]);
                faults.remove(i);
                i--;
            }
        }
        for (int r = 0; r < 32; r++) {
            long x = bits(64 + 3 * r);
            if (x != bits(65 + 3 * r) || x != bits(66 + 3 * r)) {
                counts[2]++;
            }
            set(r, register(r));
        }
        instruction();
        if (cycles % every == 0) {
            scrub();
        }
    }

    private void scrub() {
        if (read(counts[5]) == NONE) {
            counts[1]++;
        }
        counts[5] = counts[5] == 63 ? 0 : counts[5] + 1;
    }

    private static long number(boolean[] row, int from, int to) {
        long n = 0;
        for (int i = to - 1; i >= from; i--) {
            n = 2 * n + (row[i] ? 1 : 0);
        }
        return n;
    }

    private static boolean isOdd(boolean[] row) {
        int ones = 0;
        for (boolean bit : row) {
            ones += bit ? 1 : 0;
        }
        return ones % 2 == 1;
    }

    private static boolean isValueBit(int number) {
        return number != 0 && number != 1 && number != 2 && number != 4 && number != 8 && number != 16 && number != 32;
    }

    private static long valueOf(boolean[] word) {
        long v = 0;
        int i = 0;
        for (int number = 0; number < 39; number++) {
            if (isValueBit(number)) {
                v += word[number] ? 1L << i : 0;
                i++;
            }
        }
        return v;
    }

    private void keep(int w, int v) {
        boolean[] word = new boolean[39];
        int i = 0;
        int numbers = 0;
        for (int number = 0; number < 39; number++) {
            if (isValueBit(number)) {
                word[number] = (v >>> i & 1) == 1;
                numbers ^= word[number] ? number : 0;
                i++;
            }
        }
        for (int number : new int[] {1, 2, 4, 8, 16, 32}) {
            word[number] = (numbers & number) != 0;
        }
        word[0] = isOdd(word);
        parts[w] = word;
    }

    /** -1 for a good word, 99 for a broken one. */
    private static int wrongBit(boolean[] word) {
        int s = 0;
        for (int number = 1; number < 39; number++) {
            s ^= word[number] ? number : 0;
        }
        boolean q = isOdd(word);
        if (s == 0 && !q) {
            return -1;
        }
        return q && s <= 38 ? s : 99;
    }

    private long read(int w) {
        int wrong = wrongBit(parts[w]);
        if (wrong == 99) {
            return NONE;
        }
        if (wrong >= 0) {
            parts[w][wrong] = !parts[w][wrong];
            counts[0]++;
        }
        return valueOf(parts[w]);
    }

    private void drop(int line) {
        parts[line] = new boolean[38];
    }

    private void dropIfWrong(int cache, int line) {
        if (isOdd(parts[line])) {
            drop(line);
            counts[3 + cache]++;
        }
    }

    private boolean holds(int line, int w) {
        return parts[line][36] && number(parts[line], 32, 36) == w / 4;
    }

    private void fill(int line, int w, long v) {
        boolean[] bits = new boolean[38];
        for (int i = 0; i < 32; i++) {
            bits[i] = (v >> i & 1) == 1;
        }
        for (int i = 0; i < 4; i++) {
            bits[32 + i] = (w / 4 >> i & 1) == 1;
        }
        bits[36] = true;
        bits[37] = isOdd(bits);
        parts[line] = bits;
    }

    private long fetch(int cache, int w) {
        int line = 160 + 4 * cache + w % 4;
        dropIfWrong(cache, line);
        if (holds(line, w)) {
            return number(parts[line], 0, 32);
        }
        long v = read(w);
        if (v != NONE) {
            fill(line, w, v);
        }
        return v;
    }

    private void save(int w, int v) {
        keep(w, v);
        dropIfWrong(0, 160 + w % 4);
        dropIfWrong(1, 164 + w % 4);
        if (holds(160 + w % 4, w)) {
            drop(160 + w % 4);
        }
        if (holds(164 + w % 4, w)) {
            fill(164 + w % 4, w, v);
        }
    }

    private void stop(int why, int what) {
        cause = why;
        value = what;
    }

    private int operand(int r) {
        return r == 0 ? 0 : register(r);
    }

    /** The bits of a code from the first named to the last, the highest first; -1 stands for a 0. */
    private static int pick(int code, int... from) {
        int n = code < 0 ? -1 : 0;
        for (int bit : from) {
            n = 2 * n + (bit < 0 ? 0 : code >>> bit & 1);
        }
        return n;
    }

    private static int field(int code, int low, int high) {
        int n = 0;
        for (int bit = high; bit >= low; bit--) {
            n = 2 * n + (code >>> bit & 1);
        }
        return n;
    }

    private static boolean isLegal(int code) {
        int f = field(code, 12, 14);
        int g = field(code, 25, 31);
        switch (field(code, 0, 6)) {
            case 55: case 23: case 111: return true;
            case 103: case 15: return f == 0;
            case 99: return f != 2 && f != 3;
            case 3: return f == 0 || f == 1 || f == 2 || f == 4 || f == 5;
            case 35: return f == 0 || f == 1 || f == 2;
            case 19: return f == 1 ? g == 0 : f == 5 ? g == 0 || g == 32 : true;
            case 51: return g == 0 || g == 32 && (f == 0 || f == 5);
            default: return code == 115 || code == 1048691;
        }
    }

    private void instruction() {
        int p = register(0);
        if (p < 0 || p > 255 || p % 4 != 0) {
            stop(1, p);
            return;
        }
        long fetched = fetch(0, p / 4);
        if (fetched == NONE) {
            stop(5, p / 4);
            return;
        }
        int code = (int) fetched;
        if (!isLegal(code)) {
            stop(2, code);
        } else if (code == 115) {
            stop(3, 0);
        } else if (code == 1048691) {
            stop(4, 0);
        } else {
            legal(p, code);
        }
    }

    private void legal(int p, int code) {
        int f = field(code, 12, 14);
        int d = field(code, 7, 11);
        int a = operand(field(code, 15, 19));
        int b = operand(field(code, 20, 24));
        int i = pick(code, 31, 30, 29, 28, 27, 26, 25, 24, 23, 22, 21, 20);
        int u = field(code, 12, 31) * 4096;
        int l = pick(code, 31, 19, 18, 17, 16, 15, 14, 13, 12, 20, 30, 29, 28, 27, 26, 25, 24, 23, 22, 21, -1);
        int k = pick(code, 31, 7, 30, 29, 28, 27, 26, 25, 11, 10, 9, 8, -1);
        int j = pick(code, 31, 30, 29, 28, 27, 26, 25, 11, 10, 9, 8, 7);
        boolean other = field(code, 25, 31) == 32;
        switch (field(code, 0, 6)) {
            case 55: end(d, u, p + 4); break;
            case 23: end(d, p + u, p + 4); break;
            case 111: end(d, p + 4, p + l); break;
            case 103: end(d, p + 4, (a + i) / 2 * 2 == a + i ? a + i : a + i - 1); break;
            case 99: end(0, 0, taken(f, a, b) ? p + k : p + 4); break;
            case 3: load(p, f, d, a + i); break;
            case 35: store(p, f, b, a + j); break;
            case 19: end(d, computed(f, other && f == 5, a, f == 1 || f == 5 ? field(code, 20, 24) : i), p + 4); break;
            case 51: end(d, computed(f, other, a, b), p + 4); break;
            default: end(0, 0, p + 4); break;
        }
    }

    private void end(int d, int result, int next) {
        if (next % 4 != 0) {
            stop(1, next);
            return;
        }
        if (d != 0) {
            set(d, result);
        }
        set(0, next);
    }

    private static long plain(int n) {
        return n < 0 ? n + 4294967296L : n;
    }

    private static boolean taken(int f, int a, int b) {
        boolean basic = f < 2 ? a == b : f < 6 ? a < b : plain(a) < plain(b);
        return f % 2 == 0 ? basic : !basic;
    }

    private static int computed(int f, boolean other, int a, int b) {
        int by = Math.floorMod(b, 32);
        switch (f) {
            case 0: return (int) (other ? (long) a - b : (long) a + b);
            case 1: return (int) (plain(a) * (1L << by));
            case 2: return a < b ? 1 : 0;
            case 3: return plain(a) < plain(b) ? 1 : 0;
            case 4: return (a | b) - (a & b);
            case 5: return (int) Math.floorDiv(other ? (long) a : plain(a), 1L << by);
            case 6: return ~(~a & ~b);
            default: return a & b;
        }
    }

    private void load(int p, int f, int d, int address) {
        int size = f == 2 ? 4 : f % 4 == 1 ? 2 : 1;
        if (address < 0 || address > 255 || address % size != 0) {
            stop(1, address);
            return;
        }
        long word = fetch(1, address / 4);
        if (word == NONE) {
            stop(5, address / 4);
            return;
        }
        long range = 1L << 8 * size;
        long v = word / (1L << address % 4 * 8) % range;
        end(d, (int) (f < 4 && v >= range / 2 ? v - range : v), p + 4);
    }

    private void store(int p, int f, int b, int address) {
        int size = 1 << f;
        if (address < 0 || address > 255 || address % size != 0) {
            stop(1, address);
            return;
        }
        int w = address / 4;
        long word = f == 2 ? 0 : fetch(1, w);
        if (word == NONE) {
            stop(5, w);
            return;
        }
        int v = 0;
        for (int i = 0; i < 4; i++) {
            int from = i - address % 4;
            int oneByte = from >= 0 && from < size ? b >>> 8 * from & 255 : (int) (word >>> 8 * i & 255);
            v |= oneByte << 8 * i;
        }
        save(w, v);
        end(0, 0, p + 4);
    }
}
