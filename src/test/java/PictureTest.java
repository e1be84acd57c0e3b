/** Promises 1 to 6, 13 and 14: the picture, its channels and its samples. */
public final class PictureTest {
    private static final Checks CHECKS = new Checks("the picture");
    private static final double TINY_HALF = 1.0 / 16777216;

    public static void main(String[] args) {
        newObject();
        begin();
        channel();
        channelsRefused();
        halves();
        smallHalves();
        floats();
        wholes();
        setRefused();
        samplesBySteps();
        count();
        spread();
        CHECKS.finish();
    }

    private static void newObject() {
        RasterForge f = new RasterForge();
        CHECKS.due("new: width", 1, () -> f.count(0));
        CHECKS.due("new: height", 1, () -> f.count(1));
        CHECKS.due("new: channels", 1, () -> f.count(2));
        CHECKS.due("new: letter", 97, () -> f.count(10));
        CHECKS.due("new: type", 0, () -> f.count(20));
        CHECKS.due("new: step", 1, () -> f.count(30));
        CHECKS.due("new: sample", 0.0, () -> f.get(0, 0, 0));
        CHECKS.due("new: file", 0, () -> f.file(-1));
        CHECKS.due("new: where", -2, f::where);
    }

    private static void begin() {
        RasterForge f = new RasterForge();
        f.set(0, 0, 0, 5);
        CHECKS.dueIllegal("begin(0, 1)", () -> f.begin(0, 1));
        CHECKS.dueIllegal("begin(1, 0)", () -> f.begin(1, 0));
        CHECKS.dueIllegal("begin(9, 1)", () -> f.begin(9, 1));
        CHECKS.dueIllegal("begin(1, 9)", () -> f.begin(1, 9));
        CHECKS.dueIllegal("begin(least, 1)", () -> f.begin(Integer.MIN_VALUE, 1));
        CHECKS.due("the picture stays", 5.0, () -> f.get(0, 0, 0));
        f.encode(0);
        CHECKS.due("begin(8, 7)", 56, () -> f.begin(8, 7));
        CHECKS.due("width", 8, () -> f.count(0));
        CHECKS.due("height", 7, () -> f.count(1));
        CHECKS.due("no channels", 0, () -> f.count(2));
        CHECKS.dueIndex("no samples", () -> f.get(0, 0, 0));
        CHECKS.due("the file stays", 19, () -> f.file(-1));
        f.channel(97, 0, 1);
        CHECKS.due("samples are 0 again", 0.0, () -> f.get(0, 0, 0));
        CHECKS.due("begin(1, 1)", 1, () -> f.begin(1, 1));
    }

    private static void channel() {
        RasterForge f = new RasterForge();
        f.begin(2, 2);
        CHECKS.due("channel a", 1, () -> f.channel(97, 2, 2));
        CHECKS.dueIllegal("the same letter", () -> f.channel(97, 0, 1));
        CHECKS.due("channel y", 2, () -> f.channel(121, 1, 1));
        CHECKS.dueIllegal("a letter before", () -> f.channel(120, 0, 1));
        CHECKS.due("channel z", 3, () -> f.channel(122, 0, 1));
        CHECKS.due("letter 1", 121, () -> f.count(11));
        CHECKS.due("type 1", 1, () -> f.count(21));
        CHECKS.due("step 0", 2, () -> f.count(30));
        f.begin(2, 2);
        f.channel(97, 0, 1);
        f.channel(98, 0, 1);
        f.channel(99, 0, 1);
        CHECKS.dueState("a fourth", () -> f.channel(100, 0, 1));
        CHECKS.dueIllegal("a fourth with a wrong letter", () -> f.channel(99, 0, 1));
        CHECKS.dueIllegal("a fourth with a wrong step", () -> f.channel(100, 0, 3));
        CHECKS.due("still three", 3, () -> f.count(2));
    }

    private static void channelsRefused() {
        RasterForge f = new RasterForge();
        f.begin(1, 1);
        int[][] wrong = {{96, 0, 1}, {123, 0, 1}, {97, -1, 1}, {97, 3, 1}, {97, 0, 0}, {97, 0, 3},
            {97, 0, -1}, {Integer.MAX_VALUE, 0, 1}, {97, Integer.MIN_VALUE, 1}};
        for (int[] w : wrong) {
            CHECKS.dueIllegal("channel(" + w[0] + ", " + w[1] + ", " + w[2] + ")",
                    () -> f.channel(w[0], w[1], w[2]));
        }
        CHECKS.due("none came", 0, () -> f.count(2));
        CHECKS.due("z", 1, () -> f.channel(122, 0, 1));
        CHECKS.dueIllegal("none is behind z", () -> f.channel(123, 0, 1));
    }

    /** Sets one sample of a new picture and looks at what it is told as, and at its bits. */
    private static void sets(int type, double v, double told, int bits) {
        RasterForge f = new RasterForge();
        f.begin(1, 1);
        f.channel(97, type, 1);
        CHECKS.due("type " + type + ": set " + v, told, () -> f.set(0, 0, 0, v));
        CHECKS.due("type " + type + ": get of " + v, told, () -> f.get(0, 0, 0));
        CHECKS.due("type " + type + ": bits of " + v, bits, () -> f.bits(0, 0, 0));
    }

    private static void halves() {
        sets(0, 0, 0.0, 0);
        sets(0, -0.0, 0.0, 0);
        sets(0, 1, 1.0, 15360);
        sets(0, -2, -2.0, 49152);
        sets(0, 65504, 65504.0, 31743);
        sets(0, 65519.999, 65504.0, 31743);
        sets(0, 65520, 65504.0, 31743);
        sets(0, 1e30, 65504.0, 31743);
        sets(0, -65520, -65504.0, 64511);
        sets(0, -1e30, -65504.0, 64511);
        sets(0, 65487.9, 65472.0, 31742);
        sets(0, 65488, 65472.0, 31742);
        sets(0, 65488.1, 65504.0, 31743);
        sets(0, 2049, 2048.0, 26624);
        sets(0, 2049.0000001, 2050.0, 26625);
        sets(0, 2051, 2052.0, 26626);
        sets(0, 2050.9999999, 2050.0, 26625);
        sets(0, 2047.5, 2048.0, 26624);
        sets(0, 2047.4999999, 2047.0, 26623);
    }

    private static void smallHalves() {
        sets(0, TINY_HALF, TINY_HALF, 1);
        sets(0, TINY_HALF / 2, 0.0, 0);
        sets(0, Math.nextUp(TINY_HALF / 2), TINY_HALF, 1);
        sets(0, -TINY_HALF / 2, 0.0, 0);
        sets(0, -TINY_HALF * 0.75, -TINY_HALF, 32769);
        sets(0, TINY_HALF * 1.5, TINY_HALF * 2, 2);
        sets(0, TINY_HALF * 2.5, TINY_HALF * 2, 2);
        sets(0, TINY_HALF * 1023, TINY_HALF * 1023, 1023);
        sets(0, TINY_HALF * 1023.5, TINY_HALF * 1024, 1024);
        sets(0, TINY_HALF * 1024.5, TINY_HALF * 1024, 1024);
        sets(0, TINY_HALF * 2047, TINY_HALF * 2047, 2047);
        sets(0, TINY_HALF * 2048, TINY_HALF * 2048, 2048);
        sets(0, Double.MIN_VALUE, 0.0, 0);
    }

    private static void floats() {
        sets(1, 0, 0.0, 0);
        sets(1, -0.0, 0.0, 0);
        sets(1, 1, 1.0, 0x3F800000);
        sets(1, -0.15625, -0.15625, 0xBE200000);
        sets(1, 0.1, 0.1f, 0x3DCCCCCD);
        sets(1, 16777217, 16777216.0, 0x4B800000);
        sets(1, 16777219, 16777220.0, 0x4B800002);
        sets(1, 16777215, 16777215.0, 0x4B7FFFFF);
        sets(1, 8388609.5, 8388610.0, 0x4B000002);
        sets(1, 1e30, 1e30f, Float.floatToIntBits(1e30f));
        sets(1, -1e30, -1e30f, Float.floatToIntBits(-1e30f));
        sets(1, 0x1p-126, 0x1p-126, 0x00800000);
        sets(1, 0x1.fffffcp-127, 0x1.fffffcp-127, 0x007FFFFF);
        sets(1, 0x1p-149, 0x1p-149, 1);
        sets(1, -0x1p-149, -0x1p-149, 0x80000001);
        sets(1, 0x1p-150, 0.0, 0);
        sets(1, -0x1p-150, 0.0, 0);
        sets(1, Math.nextUp(0x1p-150), 0x1p-149, 1);
    }

    private static void wholes() {
        sets(2, 0, 0.0, 0);
        sets(2, 0.999, 0.0, 0);
        sets(2, 1.999, 1.0, 1);
        sets(2, -0.5, 0.0, 0);
        sets(2, -1, 0.0, 0);
        sets(2, -1e30, 0.0, 0);
        sets(2, 32768, 32768.0, 32768);
        sets(2, 65535, 65535.0, 65535);
        sets(2, 65535.9, 65535.0, 65535);
        sets(2, 65536, 65535.0, 65535);
        sets(2, 1e30, 65535.0, 65535);
    }

    private static void setRefused() {
        RasterForge f = new RasterForge();
        f.begin(3, 2);
        f.channel(97, 0, 1);
        f.set(0, 2, 1, 7);
        CHECKS.dueIllegal("no number", () -> f.set(0, 2, 1, Double.NaN));
        CHECKS.dueIllegal("above", () -> f.set(0, 2, 1, Math.nextUp(1e30)));
        CHECKS.dueIllegal("below", () -> f.set(0, 2, 1, Math.nextDown(-1e30)));
        CHECKS.dueIllegal("infinite", () -> f.set(0, 2, 1, Double.NEGATIVE_INFINITY));
        CHECKS.dueIllegal("both wrong", () -> f.set(1, 9, 9, Double.NaN));
        int[][] nowhere = {{-1, 0, 0}, {1, 0, 0}, {0, -1, 0}, {0, 3, 0}, {0, 0, -1}, {0, 0, 2},
            {3, 0, 0}, {Integer.MAX_VALUE, 0, 0}, {0, Integer.MIN_VALUE, 0}};
        for (int[] n : nowhere) {
            String at = n[0] + ", " + n[1] + ", " + n[2];
            CHECKS.dueIndex("set at " + at, () -> f.set(n[0], n[1], n[2], 1));
            CHECKS.dueIndex("get at " + at, () -> f.get(n[0], n[1], n[2]));
            CHECKS.dueIndex("bits at " + at, () -> f.bits(n[0], n[1], n[2]));
        }
        CHECKS.due("nothing changed", 7.0, () -> f.get(0, 2, 1));
    }

    private static void samplesBySteps() {
        RasterForge f = new RasterForge();
        f.begin(4, 3);
        f.channel(97, 2, 1);
        f.channel(98, 2, 2);
        for (int y = 0; y < 3; y++) {
            for (int x = 0; x < 4; x++) {
                f.set(0, x, y, 10 * y + x);
            }
        }
        f.set(1, 2, 2, 99);
        CHECKS.dueIndex("x off the step", () -> f.set(1, 1, 0, 1));
        CHECKS.dueIndex("y off the step", () -> f.get(1, 0, 1));
        CHECKS.dueIndex("both off the step", () -> f.bits(1, 3, 1));
        CHECKS.due("own place", 23.0, () -> f.get(0, 3, 2));
        CHECKS.due("own channel", 22.0, () -> f.get(0, 2, 2));
        CHECKS.due("other channel", 99.0, () -> f.get(1, 2, 2));
        CHECKS.due("untouched", 0, () -> f.bits(1, 0, 2));
    }

    private static void count() {
        RasterForge f = new RasterForge();
        f.begin(7, 5);
        f.channel(100, 2, 2);
        f.channel(104, 1, 1);
        int[][] due = {{0, 7}, {1, 5}, {2, 2}, {10, 100}, {11, 104}, {12, 0}, {20, 2}, {21, 1},
            {22, 0}, {30, 2}, {31, 1}, {32, 0}, {40, 12}, {41, 35}, {42, 0}};
        for (int[] d : due) {
            CHECKS.due("count(" + d[0] + ")", d[1], () -> f.count(d[0]));
        }
        int[] wrong = {-1, -10, 3, 9, 13, 19, 23, 29, 33, 39, 43, 49, 50, 52, 100, 110,
            Integer.MIN_VALUE, Integer.MAX_VALUE};
        for (int w : wrong) {
            CHECKS.dueIllegal("count(" + w + ")", () -> f.count(w));
        }
        f.begin(8, 8);
        f.channel(97, 0, 2);
        CHECKS.due("samples of 8 by 8 with step 2", 16, () -> f.count(40));
        CHECKS.due("the old channel is gone", 0, () -> f.count(11));
    }

    private static void spread() {
        RasterForge f = new RasterForge();
        f.begin(3, 3);
        f.channel(97, 0, 2);
        f.channel(98, 1, 1);
        f.set(0, 0, 0, 1);
        f.set(0, 2, 0, 2);
        f.set(0, 0, 2, -4);
        f.set(0, 2, 2, 3);
        CHECKS.due("the lowest is farthest", 5.0, () -> f.spread(0, 1));
        CHECKS.due("the highest is farthest", 6.0, () -> f.spread(0, -3));
        CHECKS.due("only samples count", 7.0, () -> f.spread(0, -4));
        CHECKS.due("all 0", 0.0, () -> f.spread(1, 0));
        CHECKS.due("all 0, -0", 0.0, () -> f.spread(1, -0.0));
        CHECKS.due("far off", 1e30, () -> f.spread(1, -1e30));
        f.set(1, 0, 0, 0.1);
        CHECKS.due("as told", (double) 0.1f, () -> f.spread(1, 0));
        CHECKS.dueIndex("no channel 2", () -> f.spread(2, 0));
        CHECKS.dueIndex("no channel -1", () -> f.spread(-1, 0));
        CHECKS.dueIllegal("no number", () -> f.spread(0, Double.NaN));
        CHECKS.dueIllegal("too great", () -> f.spread(0, Math.nextUp(1e30)));
        CHECKS.dueIllegal("too low, no channel", () -> f.spread(5, Math.nextDown(-1e30)));
    }
}
