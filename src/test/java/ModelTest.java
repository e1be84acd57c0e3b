import java.util.Random;

/** Long runs of calls, the same every time, held against the model. */
public final class ModelTest {
    private static final Checks CHECKS = new Checks("runs against the model");
    private final Random random;
    private final Pair pair;

    private ModelTest(String name, int seed) {
        random = new Random(seed);
        pair = new Pair(CHECKS, name + " " + seed);
    }

    public static void main(String[] args) {
        for (int seed = 0; seed < 600; seed++) {
            new ModelTest("values", seed).setValues();
            new ModelTest("files", seed).writeAndRead();
            new ModelTest("faults", seed).spoilBytes();
            new ModelTest("cuts", seed).cutAnywhere();
            new ModelTest("runs of bytes", seed).spoilRuns();
            new ModelTest("odd bits", seed).readAnyBits();
            new ModelTest("calls", seed).callAnything();
        }
        CHECKS.finish();
    }

    /** Below most; most itself is never answered. */
    private int any(int most) {
        return random.nextInt(most);
    }

    private void makePicture(int most) {
        pair.begin(1 + any(most), 1 + any(most));
        int channels = 1 + any(3);
        for (int c = 0; c < channels; c++) {
            pair.channel(pair.lastLetter() + 1 + any(8), any(3), any(4) == 0 ? 2 : 1);
        }
    }

    /** Values that lie on, between and just beside the samples that can be told. */
    private double value() {
        double v;
        switch (any(9)) {
            case 0:
                v = any(70000) / 8.0;
                break;
            case 1:
                v = Model.told(0, any(31744));
                break;
            case 2:
                int b = any(31743);
                v = (Model.told(0, b) + Model.told(0, b + 1)) / 2;
                break;
            case 3:
                float f = Float.intBitsToFloat(any(0x71000000));
                v = ((double) f + Math.nextUp(f)) / 2;
                break;
            case 4:
                v = Math.scalb(1 + random.nextDouble(), any(280) - 180);
                break;
            case 5:
                v = 65400 + random.nextDouble() * 200;
                break;
            case 6:
                v = Math.scalb(any(64) / 4.0, -24 - any(8));
                break;
            case 7:
                v = Math.scalb(any(64) / 4.0, -149 - any(8));
                break;
            default:
                double[] edges = {0, 65504, 65519.999, 65520, 65535, 65536, 2147483648.0, 1e30,
                    Math.nextUp(1e30), Double.MAX_VALUE, Double.POSITIVE_INFINITY, Double.NaN,
                    Double.MIN_VALUE, 0.999999, Math.scalb(1.0, -14), Math.scalb(1.0, -25),
                    Math.scalb(1.0, -126), Math.scalb(1.0, -149), Math.scalb(1.0, -150)};
                v = edges[any(edges.length)];
        }
        int beside = any(6);
        v = beside == 0 ? Math.nextUp(v) : beside == 1 ? Math.nextDown(v) : v;
        return any(3) == 0 ? -v : v;
    }

    private void setValues() {
        makePicture(3);
        while (pair.left() > 3) {
            int c = any(pair.channels());
            int x = any(pair.width()) / 2 * 2;
            pair.set(c, x, 0, value());
            pair.bits(c, x, 0);
            if (any(4) == 0) {
                pair.get(c, x, 0);
                pair.spread(c, value());
            }
        }
    }

    /** Fills each channel in a way of its own: nothing, alike, rising, few values, noise. */
    private void fill() {
        for (int c = 0; c < pair.channels(); c++) {
            int way = any(6);
            double start = value();
            double rise = any(2) == 0 ? 1 : any(1000) / 8.0;
            for (int y = 0; y < pair.height(); y += pair.step(c)) {
                for (int x = 0; x < pair.width(); x += pair.step(c)) {
                    double v = way == 1 ? start
                            : way == 2 ? 10 + (x + y) * rise
                            : way == 3 ? any(3)
                            : way == 4 ? 1 + random.nextDouble() : value();
                    if (way != 0) {
                        pair.set(c, x, y, v);
                    }
                }
            }
        }
    }

    private void lookAtFile() {
        int length = pair.fileLength();
        int start = any(length);
        pair.file(-1);
        for (int k = 0; k < length && pair.left() > 100; k++) {
            pair.file((start + k) % length);
        }
    }

    private void lookAtPicture() {
        for (int what = 0; what < 50; what++) {
            if (what % 10 < 3 && (what < 3 || what > 9)) {
                pair.count(what);
            }
        }
        for (int c = 0; c < pair.channels(); c++) {
            for (int y = 0; y < pair.height(); y += pair.step(c)) {
                for (int x = 0; x < pair.width(); x += pair.step(c)) {
                    pair.bits(c, x, y);
                }
            }
        }
    }

    private void writeAndRead() {
        makePicture(8);
        fill();
        pair.encode(any(4));
        lookAtFile();
        pair.begin(1, 1);
        pair.decode();
        pair.where();
        lookAtPicture();
    }

    /** Changes some bytes of a small file, most of them by little, and reads it. */
    private void spoilBytes() {
        makePicture(5);
        for (int k = 0; k < 12; k++) {
            pair.set(any(pair.channels()), any(pair.width()), any(pair.height()), value());
        }
        while (pair.left() > 40) {
            pair.encode(any(4));
            int changes = 1 + any(2);
            for (int k = 0; k < changes; k++) {
                int place = any(3) == 0 ? any(pair.fileLength()) : any(40);
                int old = place < pair.fileLength() ? pair.fileByte(place) : 0;
                pair.patch(place, any(2) == 0 ? any(256) : Math.max(0, old + any(5) - 2));
            }
            if (any(6) == 0) {
                pair.patch(pair.fileLength(), any(256));
            }
            if (any(8) == 0) {
                pair.cut(any(pair.fileLength()));
            }
            pair.decode();
            pair.where();
            pair.count(any(3));
            pair.spread(0, 0);
        }
    }

    /** Reads every beginning of a file. */
    private void cutAnywhere() {
        makePicture(5);
        fill();
        pair.encode(any(4));
        if (any(3) == 0) {
            pair.patch(any(pair.fileLength()), any(256));
        }
        while (pair.fileLength() > 0 && pair.left() > 3) {
            pair.cut(pair.fileLength() - 1 - any(2) % pair.fileLength());
            pair.decode();
            pair.where();
        }
    }

    /** Changes the first chunk's runs alone, with the table still as it should be. */
    private void spoilRuns() {
        pair.begin(2 + any(7), 1 + any(4));
        pair.channel('k', any(3), 1);
        if (any(2) == 0) {
            pair.channel('m', any(3), 2);
        }
        fill();
        while (pair.left() > 20) {
            pair.encode(1 + any(3));
            int entries = 9 + 3 * pair.channels();
            int start = pair.fileByte(entries) + 256 * pair.fileByte(entries + 1);
            int size = pair.fileByte(start + 1) + 256 * pair.fileByte(start + 2);
            int changes = 1 + any(3);
            for (int k = 0; k < changes; k++) {
                int place = start + 3 + any(Math.max(1, any(2) == 0 ? 3 : size));
                int way = any(3);
                pair.patch(place, way == 0 ? any(256) : way == 1 ? any(8) : 248 + any(8));
            }
            pair.decode();
            pair.where();
            pair.bits(0, any(pair.width()), any(pair.height()));
        }
    }

    /** Puts bits into a plain file that set can't make, and writes them by all schemes. */
    private void readAnyBits() {
        pair.begin(1 + any(4), 1 + any(3));
        pair.channel('a', 1, 1);
        pair.channel('b', any(2), 1 + any(2));
        pair.encode(0);
        int start = 15 + 2 * pair.height();
        int[] tops = {0x7f, 0xff, 0x7e, 0xfe, 0x80, 0x00, 0x3f};
        for (int k = start; k < pair.fileLength(); k++) {
            if (pair.fileByte(k) == 0 && any(3) != 0 && !isSizeOrLine(start, k)) {
                pair.patch(k, any(2) == 0 ? tops[any(tops.length)] : any(256));
            }
        }
        pair.decode();
        pair.where();
        lookAtPicture();
        for (int scheme = 1; scheme < 4; scheme++) {
            pair.encode(scheme);
            pair.decode();
            pair.where();
            lookAtPicture();
        }
    }

    private boolean isSizeOrLine(int start, int k) {
        int at = start;
        while (at < k) {
            if (k < at + 3) {
                return true;
            }
            at += 3 + pair.fileByte(at + 1) + 256 * pair.fileByte(at + 2);
        }
        return at == k;
    }

    /** Near the edges of what is allowed. */
    private int near(int most) {
        int[] far = {-1, -2, most, most + 1, Integer.MIN_VALUE, Integer.MAX_VALUE};
        return any(5) == 0 ? far[any(far.length)] : any(Math.max(1, most));
    }

    private void callAnything() {
        while (pair.left() > 0) {
            int c = near(pair.channels());
            int x = near(pair.width());
            int y = near(pair.height());
            switch (any(16)) {
                case 0:
                    pair.begin(near(9), near(9));
                    break;
                case 1:
                case 2:
                    pair.channel(any(3) == 0 ? 94 + any(32) : pair.lastLetter() + any(4),
                            near(3), near(3));
                    break;
                case 3:
                case 4:
                    pair.set(c, x, y, value());
                    break;
                case 5:
                    pair.get(c, x, y);
                    break;
                case 6:
                    pair.bits(c, x, y);
                    break;
                case 7:
                case 8:
                    pair.encode(near(4));
                    break;
                case 9:
                    pair.decode();
                    break;
                case 10:
                    pair.where();
                    break;
                case 11:
                    pair.file(near(pair.fileLength()));
                    break;
                case 12:
                    pair.patch(near(pair.fileLength()), near(256));
                    break;
                case 13:
                    pair.cut(any(3) == 0 ? near(pair.fileLength()) : pair.fileLength());
                    break;
                case 14:
                    pair.count(any(2) == 0 ? near(60) : 10 * any(5) + any(3));
                    break;
                default:
                    pair.spread(c, value());
            }
        }
    }
}
