import java.math.BigDecimal;
import java.util.ArrayList;
import java.util.Arrays;
import java.util.List;

/**
 * The document read a second time, with the whole Java library at hand and no care for room:
 * what RasterForge answers is held against what this answers.
 */
final class Model {
    /** A channel with its samples by line and column of its own step. */
    private static final class Plane {
        final int letter;
        final int type;
        final int step;
        final int[][] samples;

        Plane(int letter, int type, int step, int width, int height) {
            this.letter = letter;
            this.type = type;
            this.step = step;
            samples = new int[(height + step - 1) / step][(width + step - 1) / step];
        }
    }

    /** What is not as said in a file, and where. */
    private static final class Fault extends Exception {
        private static final long serialVersionUID = 1L;
        final int offset;
        final boolean unknown;

        Fault(int offset, boolean unknown) {
            this.offset = offset;
            this.unknown = unknown;
        }
    }

    private static final double[] HALVES = new double[31744];

    static {
        for (int b = 0; b < HALVES.length; b++) {
            HALVES[b] = b < 1024 ? Math.scalb((double) b, -24)
                    : Math.scalb(1024.0 + b % 1024, b / 1024 - 25);
        }
    }

    private int width = 1;
    private int height = 1;
    private List<Plane> planes = new ArrayList<>();
    private List<Integer> file = new ArrayList<>();
    private int where = -2;

    Model() {
        planes.add(new Plane('a', 0, 1, 1, 1));
    }

    int begin(int w, int h) {
        illegalUnless(1 <= w && w <= 8 && 1 <= h && h <= 8);
        width = w;
        height = h;
        planes = new ArrayList<>();
        return w * h;
    }

    int channel(int letter, int type, int step) {
        illegalUnless(letter >= 'a' && letter <= 'z');
        illegalUnless(planes.isEmpty() || letter > planes.get(planes.size() - 1).letter);
        illegalUnless(type >= 0 && type <= 2 && (step == 1 || step == 2));
        if (planes.size() == 3) {
            throw new IllegalStateException();
        }
        planes.add(new Plane(letter, type, step, width, height));
        return planes.size();
    }

    double set(int c, int x, int y, double v) {
        illegalUnless(Math.abs(v) <= 1e30);
        int[] line = line(c, x, y);
        Plane plane = planes.get(c);
        line[x / plane.step] = bitsOf(plane.type, v);
        return get(c, x, y);
    }

    double get(int c, int x, int y) {
        return told(planesType(c), line(c, x, y)[x / planes.get(c).step]);
    }

    int bits(int c, int x, int y) {
        return line(c, x, y)[x / planes.get(c).step];
    }

    int encode(int scheme) {
        illegalUnless(scheme >= 0 && scheme <= 3);
        if (planes.isEmpty()) {
            throw new IllegalStateException();
        }
        int lines = scheme < 2 ? 1 : 4;
        List<List<Integer>> chunks = new ArrayList<>();
        for (int y = 0; y < height; y += lines) {
            chunks.add(chunk(scheme, y, Math.min(y + lines, height)));
        }
        List<Integer> out = new ArrayList<>(List.of(118, 47, 49, 1, 2, width, height, scheme,
                planes.size()));
        for (Plane p : planes) {
            out.addAll(List.of(p.letter, p.type, p.step));
        }
        int offset = out.size() + 2 * chunks.size();
        for (List<Integer> chunk : chunks) {
            addBytes(out, offset, 2);
            offset += chunk.size();
        }
        chunks.forEach(out::addAll);
        file = out;
        return out.size();
    }

    int decode() {
        Model read = new Model();
        try {
            int scheme = read.read(file);
            width = read.width;
            height = read.height;
            planes = read.planes;
            where = -2;
            return scheme;
        } catch (Fault f) {
            where = f.offset;
            if (f.unknown) {
                throw new UnsupportedOperationException();
            }
            throw new IllegalArgumentException();
        }
    }

    int where() {
        return where;
    }

    int file(int k) {
        if (k == -1) {
            return file.size();
        }
        return file.get(k);
    }

    int patch(int k, int b) {
        illegalUnless(b >= 0 && b <= 255);
        if (k == file.size() && k < 1500) {
            file.add(b);
            return -1;
        }
        return file.set(k, b);
    }

    int cut(int n) {
        illegalUnless(n >= 0 && n <= file.size());
        int gone = file.size() - n;
        file = new ArrayList<>(file.subList(0, n));
        return gone;
    }

    int count(int what) {
        illegalUnless(what >= 0 && what < 50 && what % 10 < 3);
        if (what < 3) {
            return new int[] {width, height, planes.size()}[what];
        }
        if (what % 10 >= planes.size()) {
            return 0;
        }
        Plane p = planes.get(what % 10);
        return new int[] {p.letter, p.type, p.step,
            p.samples.length * p.samples[0].length}[what / 10 - 1];
    }

    double spread(int c, double v) {
        illegalUnless(Math.abs(v) <= 1e30);
        double most = 0;
        int type = planesType(c);
        for (int[] line : planes.get(c).samples) {
            for (int b : line) {
                most = Math.max(most, Math.abs(told(type, b) - v));
            }
        }
        return most;
    }

    private static void illegalUnless(boolean good) {
        if (!good) {
            throw new IllegalArgumentException();
        }
    }

    private int planesType(int c) {
        return planes.get(c).type;
    }

    private int[] line(int c, int x, int y) {
        Plane p = planes.get(c);
        if (x < 0 || y < 0 || x >= width || y >= height || x % p.step != 0 || y % p.step != 0) {
            throw new IndexOutOfBoundsException();
        }
        return p.samples[y / p.step];
    }

    static int bitsOf(int type, double v) {
        if (type == 2) {
            return v < 0 ? 0 : v > 65535 ? 65535 : (int) v;
        }
        if (type == 1) {
            float f = (float) v;
            return f == 0 ? 0 : Float.floatToIntBits(f);
        }
        if (v < 0) {
            int b = bitsOf(0, -v);
            return b == 0 ? 0 : 32768 + b;
        }
        if (v >= 65520) {
            return 31743;
        }
        int found = Arrays.binarySearch(HALVES, Math.abs(v));
        if (found >= 0) {
            return found;
        }
        int above = -found - 1;
        if (above == HALVES.length) {
            return 31743;
        }
        BigDecimal exact = new BigDecimal(v);
        int nearer = exact.subtract(new BigDecimal(HALVES[above - 1]))
                .compareTo(new BigDecimal(HALVES[above]).subtract(exact));
        if (nearer == 0) {
            return above % 2 == 0 ? above : above - 1;
        }
        return nearer < 0 ? above - 1 : above;
    }

    static double told(int type, int b) {
        if (type == 2) {
            return b;
        }
        if (type == 1) {
            return Float.intBitsToFloat(b) + 0.0;
        }
        return b >= 32768 ? 0.0 - HALVES[b - 32768] : HALVES[b];
    }

    private static boolean noNumber(int type, int b) {
        return type == 0 ? (b / 1024) % 32 == 31 : type == 1 && (b >>> 23) % 256 == 255;
    }

    private static int shortened(int b) {
        int up = b + 128;
        return noNumber(1, up) ? b >>> 8 : up >>> 8;
    }

    private static void addBytes(List<Integer> out, int number, int bytes) {
        for (int k = 0; k < bytes; k++) {
            out.add(number >>> 8 * k & 255);
        }
    }

    private static int wide(int type, int scheme) {
        return type != 1 ? 2 : scheme == 2 ? 3 : 4;
    }

    private List<Integer> chunk(int scheme, int from, int to) {
        List<Integer> raw = lines(scheme, from, to, false);
        List<Integer> body = raw;
        if (scheme != 0) {
            List<Integer> made = scheme == 3 ? tables(from, to)
                    : lines(scheme, from, to, scheme == 2);
            List<Integer> packed = packed(made);
            body = packed.size() < raw.size() ? packed : raw;
        }
        List<Integer> out = new ArrayList<>();
        out.add(from);
        addBytes(out, body.size(), 2);
        out.addAll(body);
        return out;
    }

    private List<Integer> lines(int scheme, int from, int to, boolean apart) {
        List<Integer> out = new ArrayList<>();
        for (int y = from; y < to; y++) {
            for (Plane p : planes) {
                if (y % p.step != 0) {
                    continue;
                }
                int[] line = p.samples[y / p.step];
                int bytes = wide(p.type, scheme);
                for (int k = 0; k < line.length; k++) {
                    int now = bytes == 3 ? shortened(line[k]) : line[k];
                    int before = k == 0 || !apart ? 0
                            : bytes == 3 ? shortened(line[k - 1]) : line[k - 1];
                    addBytes(out, now - before, bytes);
                }
            }
        }
        return out;
    }

    private List<Integer> tables(int from, int to) {
        List<Integer> out = new ArrayList<>();
        for (Plane p : planes) {
            for (int shift = 0; shift <= (p.type == 1 ? 16 : 0); shift += 16) {
                int top = (from + p.step - 1) / p.step;
                int end = (to + p.step - 1) / p.step;
                int[][] table = new int[end - top][];
                for (int row = top; row < end; row++) {
                    int by = shift;
                    table[row - top] = Arrays.stream(p.samples[row])
                            .map(b -> b >>> by & 65535).toArray();
                }
                wavelet(table);
                for (int[] line : table) {
                    for (int b : line) {
                        addBytes(out, b, 2);
                    }
                }
            }
        }
        return out;
    }

    private static int[] mixed(int u, int v) {
        int o = (u + 32768) % 65536;
        int m = (o + v) / 2;
        int w = o - v;
        if (w < 0) {
            m = (m + 32768) % 65536;
        }
        return new int[] {m, Math.floorMod(w, 65536)};
    }

    /** Looks for the pair that mixes to this one: o - v is w itself or w - 65536. */
    private static int[] unmixed(int m, int w) {
        for (int apart : new int[] {w, w - 65536}) {
            int v = Math.floorMod(m - Math.floorDiv(apart, 2) + (apart < 0 ? 32768 : 0), 65536);
            int u = Math.floorMod(v + apart - 32768, 65536);
            if (Arrays.equals(mixed(u, v), new int[] {m, w})) {
                return new int[] {u, v};
            }
        }
        throw new AssertionError("no pair mixes to " + m + ", " + w);
    }

    private static void wavelet(int[][] t) {
        int least = t.length == 0 ? 0 : Math.min(t.length, t[0].length);
        for (int p = 1; 2 * p <= least; p *= 2) {
            for (int y = 0; y + p < t.length; y += 2 * p) {
                for (int x = 0; x + p < t[0].length; x += 2 * p) {
                    int[] ij = mixed(t[y][x], t[y][x + p]);
                    int[] kl = mixed(t[y + p][x], t[y + p][x + p]);
                    int[] ac = mixed(ij[0], kl[0]);
                    int[] bd = mixed(ij[1], kl[1]);
                    t[y][x] = ac[0];
                    t[y + p][x] = ac[1];
                    t[y][x + p] = bd[0];
                    t[y + p][x + p] = bd[1];
                }
            }
        }
    }

    private static void unwavelet(int[][] t) {
        int least = t.length == 0 ? 0 : Math.min(t.length, t[0].length);
        for (int p = Integer.highestOneBit(least) / 2; p >= 1; p /= 2) {
            for (int y = 0; y + p < t.length; y += 2 * p) {
                for (int x = 0; x + p < t[0].length; x += 2 * p) {
                    int[] ik = unmixed(t[y][x], t[y + p][x]);
                    int[] jl = unmixed(t[y][x + p], t[y + p][x + p]);
                    int[] ab = unmixed(ik[0], jl[0]);
                    int[] cd = unmixed(ik[1], jl[1]);
                    t[y][x] = ab[0];
                    t[y][x + p] = ab[1];
                    t[y + p][x] = cd[0];
                    t[y + p][x + p] = cd[1];
                }
            }
        }
    }

    private static List<Integer> packed(List<Integer> bytes) {
        List<Integer> sorted = new ArrayList<>();
        for (int odd = 0; odd < 2; odd++) {
            for (int k = odd; k < bytes.size(); k += 2) {
                sorted.add(bytes.get(k));
            }
        }
        List<Integer> d = new ArrayList<>();
        for (int k = 0; k < sorted.size(); k++) {
            d.add(k == 0 ? sorted.get(0)
                    : Math.floorMod(sorted.get(k) - sorted.get(k - 1) + 128, 256));
        }
        List<Integer> out = new ArrayList<>();
        int at = 0;
        while (at < d.size()) {
            if (threeAlike(d, at)) {
                int n = 3;
                while (n < 128 && at + n < d.size() && d.get(at + n).equals(d.get(at))) {
                    n++;
                }
                out.add(n - 1);
                out.add(d.get(at));
                at += n;
            } else {
                int n = 1;
                while (n < 127 && at + n < d.size() && !threeAlike(d, at + n)) {
                    n++;
                }
                out.add(256 - n);
                out.addAll(d.subList(at, at + n));
                at += n;
            }
        }
        return out;
    }

    private static boolean threeAlike(List<Integer> d, int at) {
        return at + 2 < d.size() && d.get(at).equals(d.get(at + 1))
                && d.get(at).equals(d.get(at + 2));
    }

    /** The byte at an offset, which must be there and lie between two bounds. */
    private static int byteAt(List<Integer> in, int k, int least, int most) throws Fault {
        if (k >= in.size()) {
            throw new Fault(in.size(), false);
        }
        if (in.get(k) < least || in.get(k) > most) {
            throw new Fault(k, false);
        }
        return in.get(k);
    }

    private static int twoAt(List<Integer> in, int k) throws Fault {
        if (k + 2 > in.size()) {
            throw new Fault(in.size(), false);
        }
        return in.get(k) + 256 * in.get(k + 1);
    }

    private int read(List<Integer> in) throws Fault {
        int[] magic = {118, 47, 49, 1};
        for (int k = 0; k < 4; k++) {
            byteAt(in, k, magic[k], magic[k]);
        }
        if (byteAt(in, 4, 0, 255) != 2) {
            throw new Fault(4, true);
        }
        width = byteAt(in, 5, 1, 8);
        height = byteAt(in, 6, 1, 8);
        int scheme = byteAt(in, 7, 0, 255);
        if (scheme > 3) {
            throw new Fault(7, true);
        }
        int channels = byteAt(in, 8, 1, 3);
        planes = new ArrayList<>();
        int at = 9;
        for (int c = 0; c < channels; c++, at += 3) {
            int letter = byteAt(in, at, c == 0 ? 97 : planes.get(c - 1).letter + 1, 122);
            int type = byteAt(in, at + 1, 0, 2);
            planes.add(new Plane(letter, type, byteAt(in, at + 2, 1, 2), width, height));
        }
        int lines = scheme < 2 ? 1 : 4;
        int chunks = (height + lines - 1) / lines;
        checkTable(in, at, chunks);
        at += 2 * chunks;
        for (int y = 0; y < height; y += lines) {
            at = readChunk(in, at, scheme, y, Math.min(y + lines, height));
        }
        if (at < in.size()) {
            throw new Fault(at, false);
        }
        return scheme;
    }

    private static void checkTable(List<Integer> in, int table, int chunks) throws Fault {
        int due = table + 2 * chunks;
        boolean looking = true;
        for (int k = 0; k < chunks; k++) {
            int offset = twoAt(in, table + 2 * k);
            if (looking && offset != due) {
                throw new Fault(table + 2 * k, false);
            }
            looking = looking && due + 3 <= in.size()
                    && due + 3 + twoAt(in, due + 1) <= in.size();
            due += looking ? 3 + twoAt(in, due + 1) : 0;
        }
    }

    private int readChunk(List<Integer> in, int at, int scheme, int from, int to) throws Fault {
        byteAt(in, at, from, from);
        int size = twoAt(in, at + 1);
        int wanted = lines(scheme, from, to, false).size();
        if (size > wanted || scheme == 0 && size != wanted) {
            throw new Fault(at + 1, false);
        }
        int end = at + 3 + size;
        if (end > in.size()) {
            throw new Fault(in.size(), false);
        }
        if (size == wanted) {
            takeLines(in.subList(at + 3, end), scheme, from, to, false);
        } else {
            List<Integer> made = unpacked(in, at + 3, end, wanted);
            if (scheme == 3) {
                takeTables(made, from, to);
            } else {
                takeLines(made, scheme, from, to, scheme == 2);
            }
        }
        for (Plane p : planes) {
            for (int y = from; y < to; y++) {
                int[] line = y % p.step == 0 ? p.samples[y / p.step] : new int[0];
                if (Arrays.stream(line).anyMatch(b -> noNumber(p.type, b))) {
                    throw new Fault(at, false);
                }
            }
        }
        return end;
    }

    private static List<Integer> unpacked(List<Integer> in, int start, int end, int wanted)
            throws Fault {
        List<Integer> d = new ArrayList<>();
        int at = start;
        while (at < end) {
            int n = in.get(at);
            int next = n < 128 ? at + 2 : at + 1 + 256 - n;
            if (next > end || d.size() + (n < 128 ? n + 1 : 256 - n) > wanted) {
                throw new Fault(at, false);
            }
            if (n < 128) {
                d.addAll(java.util.Collections.nCopies(n + 1, in.get(at + 1)));
            } else {
                d.addAll(in.subList(at + 1, next));
            }
            at = next;
        }
        if (d.size() != wanted) {
            throw new Fault(end, false);
        }
        Integer[] out = new Integer[wanted];
        int sum = 128;
        int place = 0;
        for (int b : d) {
            sum = Math.floorMod(sum + b - 128, 256);
            out[place] = sum;
            place = place + 2 < wanted || place % 2 == 1 ? place + 2 : 1;
        }
        return Arrays.asList(out);
    }

    private static int number(List<Integer> in, int at, int bytes) {
        int n = 0;
        for (int k = bytes - 1; k >= 0; k--) {
            n = 256 * n + in.get(at + k);
        }
        return n;
    }

    private void takeLines(List<Integer> in, int scheme, int from, int to, boolean apart) {
        int at = 0;
        for (int y = from; y < to; y++) {
            for (Plane p : planes) {
                if (y % p.step != 0) {
                    continue;
                }
                int bytes = wide(p.type, scheme);
                int[] line = p.samples[y / p.step];
                long sum = 0;
                for (int k = 0; k < line.length; k++, at += bytes) {
                    int now = number(in, at, bytes);
                    sum = apart ? (sum + now) % (1L << 8 * bytes) : now;
                    line[k] = bytes == 3 ? (int) (sum * 256) : (int) sum;
                }
            }
        }
    }

    private void takeTables(List<Integer> in, int from, int to) {
        int at = 0;
        for (Plane p : planes) {
            int top = (from + p.step - 1) / p.step;
            int end = (to + p.step - 1) / p.step;
            for (int shift = 0; shift <= (p.type == 1 ? 16 : 0); shift += 16) {
                int[][] table = new int[end - top][p.samples[0].length];
                for (int[] line : table) {
                    for (int k = 0; k < line.length; k++, at += 2) {
                        line[k] = number(in, at, 2);
                    }
                }
                unwavelet(table);
                for (int row = top; row < end; row++) {
                    for (int k = 0; k < p.samples[row].length; k++) {
                        p.samples[row][k] += table[row - top][k] << shift;
                    }
                }
            }
        }
    }
}
