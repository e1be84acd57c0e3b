/** Promises 7, 10, 11 and 12: what encode writes, and the bytes of the file by hand. */
public final class FileTest {
    private static final Checks CHECKS = new Checks("the file");

    public static void main(String[] args) {
        plain();
        plainWithSteps();
        plainFloat();
        packed();
        packedOrRaw();
        longRuns();
        cutFloats();
        cutGreatest();
        cutDifferences();
        waves();
        tallChunks();
        greatestChunk();
        encodeRefused();
        file();
        patch();
        cut();
        CHECKS.finish();
    }

    private static void holds(String what, RasterForge f, int start, int... bytes) {
        for (int k = 0; k < bytes.length; k++) {
            int at = start + k;
            CHECKS.due(what + ": byte " + at, bytes[k], () -> f.file(at));
        }
    }

    private static void plain() {
        RasterForge f = new RasterForge();
        f.set(0, 0, 0, -1.5);
        CHECKS.due("plain: length", 19, () -> f.encode(0));
        holds("plain", f, 0, 118, 47, 49, 1, 2, 1, 1, 0, 1, 97, 0, 1, 14, 0, 0, 2, 0, 0, 190);
        CHECKS.due("the picture stays", -1.5, () -> f.get(0, 0, 0));
    }

    private static void plainWithSteps() {
        RasterForge f = Forges.picture(3, 3, 98, 0, 2);
        f.set(0, 2, 2, 1);
        CHECKS.due("steps: length", 35, () -> f.encode(0));
        holds("steps", f, 5, 3, 3, 0, 1, 98, 0, 2, 18, 0, 25, 0, 28, 0,
                0, 4, 0, 0, 0, 0, 0,
                1, 0, 0,
                2, 4, 0, 0, 0, 0, 60);
    }

    private static void plainFloat() {
        RasterForge f = Forges.picture(2, 1, 97, 1, 1, 99, 2, 1);
        f.set(0, 1, 0, 0.1);
        f.set(1, 0, 0, 258);
        CHECKS.due("float: length", 32, () -> f.encode(0));
        holds("float", f, 9, 97, 1, 1, 99, 2, 1, 17, 0, 0, 12, 0,
                0, 0, 0, 0, 0xCD, 0xCC, 0xCC, 0x3D, 2, 1, 0, 0);
    }

    private static void packed() {
        RasterForge f = Forges.picture(8, 1, 97, 2, 1);
        CHECKS.due("zeros packed: length", 21, () -> f.encode(1));
        holds("zeros packed", f, 7, 1, 1, 97, 2, 1, 14, 0, 0, 4, 0, 255, 0, 14, 128);
        for (int x = 0; x < 8; x++) {
            f.set(0, x, 0, 10 * (x + 1));
        }
        CHECKS.due("rising packed: length", 25, () -> f.encode(1));
        holds("rising packed", f, 14, 0, 8, 0, 255, 10, 6, 138, 255, 48, 6, 128);
    }

    private static void packedOrRaw() {
        RasterForge f = Forges.picture(2, 1, 97, 2, 1);
        // 0, 128, 128, 128 in runs: 255, 0, 2, 128, which is not fewer than 4.
        CHECKS.due("as many: length", 21, () -> f.encode(1));
        holds("as many are raw", f, 14, 0, 4, 0, 0, 0, 0, 0);
        RasterForge g = Forges.picture(3, 1, 97, 2, 1);
        CHECKS.due("fewer: length", 21, () -> g.encode(1));
        holds("fewer are packed", g, 14, 0, 4, 0, 255, 0, 4, 128);
    }

    /** 192 bytes of 0: a first one, then 191 alike, of which a run takes 128. */
    private static void longRuns() {
        RasterForge f = Forges.picture(8, 4, 97, 2, 1, 98, 2, 1, 99, 2, 1);
        CHECKS.due("long runs: length", 18 + 2 + 3 + 6, () -> f.encode(2));
        holds("long runs", f, 18, 20, 0, 0, 6, 0, 255, 0, 127, 128, 62, 128);
    }

    private static void cutFloats() {
        RasterForge f = Forges.picture(1, 1, 97, 1, 1);
        f.set(0, 0, 0, 1 + 0x1p-16);
        CHECKS.due("cut up: length", 20, () -> f.encode(2));
        holds("cut up", f, 14, 0, 3, 0, 1, 0x80, 0x3F);
        f.set(0, 0, 0, 1 + 0x1p-16 - 0x1p-23);
        f.encode(2);
        holds("cut down", f, 14, 0, 3, 0, 0, 0x80, 0x3F);
        f.set(0, 0, 0, -1 - 0x1p-16);
        f.encode(2);
        holds("cut below 0", f, 14, 0, 3, 0, 1, 0x80, 0xBF);
        CHECKS.due("encode leaves the picture", -1 - 0x1p-16, () -> f.get(0, 0, 0));
        f.decode();
        CHECKS.due("decode takes what was cut", -1 - 0x1p-15, () -> f.get(0, 0, 0));
    }

    /** A float so great that rounding up would leave the numbers is cut without it. */
    private static void cutGreatest() {
        RasterForge f = Forges.picture(1, 1, 97, 1, 1);
        f.encode(0);
        int[] greatest = {0xFF, 0xFF, 0x7F, 0xFF};
        for (int k = 0; k < 4; k++) {
            f.patch(17 + k, greatest[k]);
        }
        f.decode();
        CHECKS.due("the greatest below 0", 0xFF7FFFFF, () -> f.bits(0, 0, 0));
        f.encode(2);
        holds("greatest", f, 14, 0, 3, 0, 0xFF, 0x7F, 0xFF);
        f.decode();
        CHECKS.due("the greatest, cut", 0xFF7FFF00, () -> f.bits(0, 0, 0));
    }

    private static void cutDifferences() {
        RasterForge f = Forges.picture(8, 1, 97, 2, 1);
        for (int x = 0; x < 8; x++) {
            f.set(0, x, 0, 10 * (x + 1));
        }
        CHECKS.due("differences: length", 25, () -> f.encode(2));
        holds("differences", f, 14, 0, 8, 0, 255, 10, 6, 128, 255, 118, 6, 128);
        f.decode();
        CHECKS.due("differences read", 80.0, () -> f.get(0, 7, 0));
    }

    /** Each square of zeros becomes 32768, 49152 above 32768, 32768. */
    private static void waves() {
        RasterForge f = Forges.picture(4, 2, 97, 2, 1);
        CHECKS.due("waves: length", 29, () -> f.encode(3));
        holds("waves", f, 12, 14, 0, 0, 12, 0,
                255, 0, 6, 128, 251, 0, 192, 64, 192, 64, 2, 128);
        RasterForge g = Forges.picture(2, 2, 97, 2, 1);
        g.set(0, 1, 1, 5);
        CHECKS.due("waves that are not fewer: length", 25, () -> g.encode(3));
        holds("raw and no waves", g, 14, 0, 8, 0, 0, 0, 0, 0, 0, 0, 5, 0);
    }

    private static void tallChunks() {
        RasterForge f = Forges.picture(1, 6, 97, 0, 1, 98, 2, 2);
        f.set(0, 0, 5, 1);
        f.set(1, 0, 4, 3);
        // Four lines and two; the channels take turns in each line.
        for (int scheme = 2; scheme <= 3; scheme++) {
            f.encode(scheme);
            holds("the second chunk by " + scheme, f, f.file(17), 4, 6, 0, 0, 0, 3, 0, 0, 60);
        }
    }

    /** 384 bytes, which no scheme makes fewer where all are unlike. */
    private static void greatestChunk() {
        RasterForge f = Forges.picture(8, 4, 97, 1, 1, 98, 1, 1, 99, 1, 1);
        CHECKS.due("384 zeros: length", 18 + 2 + 3 + 8, () -> f.encode(2));
        holds("288 cut zeros", f, 20, 0, 8, 0, 255, 0, 127, 128, 127, 128, 30, 128);
        for (int k = 0; k < 96; k++) {
            f.set(k / 32, k % 8, k / 8 % 4, (k * k * 7919 % 1000 + 1) * Math.pow(0.37, k % 50));
        }
        double last = f.get(2, 7, 3);
        int bits = f.bits(2, 7, 3);
        CHECKS.due("384 unlike bytes: length", 18 + 2 + 3 + 384, () -> f.encode(3));
        holds("384 unlike bytes", f, 403, bits & 255, bits >> 8 & 255, bits >> 16 & 255,
                bits >>> 24);
        CHECKS.due("384 unlike bytes: read", 3, f::decode);
        CHECKS.due("the last of 96 samples", last, () -> f.get(2, 7, 3));
        for (int k = 0; k < 80; k++) {
            f.set(k / 32, k % 8, k / 8 % 4, 0);
        }
        f.encode(3);
        CHECKS.due("384 bytes packed: read", 3, f::decode);
        CHECKS.due("the last sample, packed", last, () -> f.get(2, 7, 3));
    }

    private static void encodeRefused() {
        RasterForge f = new RasterForge();
        f.encode(0);
        CHECKS.dueIllegal("scheme -1", () -> f.encode(-1));
        CHECKS.dueIllegal("scheme 4", () -> f.encode(4));
        f.begin(2, 2);
        CHECKS.dueState("no channels", () -> f.encode(0));
        CHECKS.dueIllegal("no channels and no scheme", () -> f.encode(4));
        CHECKS.due("the file stays", 19, () -> f.file(-1));
    }

    private static void file() {
        RasterForge f = new RasterForge();
        CHECKS.dueIndex("empty: byte 0", () -> f.file(0));
        f.encode(0);
        CHECKS.due("length", 19, () -> f.file(-1));
        CHECKS.due("first byte", 118, () -> f.file(0));
        CHECKS.due("last byte", 0, () -> f.file(18));
        CHECKS.dueIndex("behind the last", () -> f.file(19));
        CHECKS.dueIndex("-2", () -> f.file(-2));
        CHECKS.dueIndex("greatest", () -> f.file(Integer.MAX_VALUE));
    }

    private static void patch() {
        RasterForge f = new RasterForge();
        CHECKS.dueIndex("not at the end", () -> f.patch(1, 5));
        CHECKS.due("the first", -1, () -> f.patch(0, 255));
        CHECKS.due("the second", -1, () -> f.patch(1, 0));
        CHECKS.due("in place", 255, () -> f.patch(0, 7));
        CHECKS.due("what is there", 7, () -> f.file(0));
        CHECKS.dueIllegal("256", () -> f.patch(0, 256));
        CHECKS.dueIllegal("-1", () -> f.patch(0, -1));
        CHECKS.dueIllegal("both wrong", () -> f.patch(9, 256));
        CHECKS.dueIndex("k -1", () -> f.patch(-1, 0));
        CHECKS.dueIndex("k beyond the end", () -> f.patch(3, 0));
        CHECKS.due("two bytes", 2, () -> f.file(-1));
        CHECKS.due("nothing changed", 7, () -> f.file(0));
    }

    private static void cut() {
        RasterForge f = new RasterForge();
        CHECKS.due("nothing of nothing", 0, () -> f.cut(0));
        CHECKS.dueIllegal("more than there are", () -> f.cut(1));
        f.encode(0);
        CHECKS.due("all stay", 0, () -> f.cut(19));
        CHECKS.dueIllegal("one more", () -> f.cut(20));
        CHECKS.dueIllegal("-1", () -> f.cut(-1));
        CHECKS.due("some go", 9, () -> f.cut(10));
        CHECKS.due("length", 10, () -> f.file(-1));
        CHECKS.due("the last that stayed", 97, () -> f.file(9));
        CHECKS.dueIndex("the first that went", () -> f.file(10));
        CHECKS.due("behind it", -1, () -> f.patch(10, 3));
        CHECKS.due("all go", 11, () -> f.cut(0));
        CHECKS.due("empty", 0, () -> f.file(-1));
    }
}
