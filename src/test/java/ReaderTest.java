/** Promises 8 and 9: what decode takes, what it refuses, and where. */
public final class ReaderTest {
    private static final Checks CHECKS = new Checks("the reader");

    public static void main(String[] args) {
        readsBack();
        pictureStays();
        head();
        table();
        lostChunks();
        chunks();
        missingBytes();
        noNumbers();
        runs();
        runsThatFit();
        rawAsGreat();
        noSamples();
        CHECKS.finish();
    }

    /** 72 bytes: the table at 15, lines at 25, 36, 43, 54, 61 with 8, 4, 8, 4, 8 bytes. */
    private static RasterForge plainFile() {
        RasterForge f = new RasterForge();
        f.begin(2, 5);
        f.channel(97, 0, 1);
        f.channel(99, 1, 2);
        f.encode(0);
        return f;
    }

    /** 21 bytes: the chunk at 14 with its runs 255, 0, 14, 128 from 17 on. */
    private static RasterForge packedFile() {
        RasterForge f = new RasterForge();
        f.begin(8, 1);
        f.channel(97, 2, 1);
        f.encode(1);
        return f;
    }

    private static void faultAt(String what, int offset, RasterForge f) {
        CHECKS.dueIllegal(what, f::decode);
        CHECKS.due(what + ": where", offset, f::where);
    }

    private static void unknownAt(String what, int offset, RasterForge f) {
        CHECKS.dueUnknown(what, f::decode);
        CHECKS.due(what + ": where", offset, f::where);
    }

    private static void reads(String what, int scheme, RasterForge f) {
        CHECKS.due(what, scheme, f::decode);
        CHECKS.due(what + ": where", -2, f::where);
    }

    private static void readsBack() {
        for (int scheme = 0; scheme < 4; scheme++) {
            RasterForge f = new RasterForge();
            f.begin(5, 6);
            f.channel(98, 0, 1);
            f.channel(99, 1, 2);
            f.channel(120, 2, 1);
            for (int y = 0; y < 6; y++) {
                for (int x = 0; x < 5; x++) {
                    f.set(0, x, y, x - y);
                    f.set(2, x, y, 1000 * x + y);
                    if (x % 2 == 0 && y % 2 == 0) {
                        f.set(1, x, y, 0.25 * x - 8 * y);
                    }
                }
            }
            f.encode(scheme);
            f.begin(1, 1);
            reads("scheme " + scheme, scheme, f);
            CHECKS.due("width", 5, () -> f.count(0));
            CHECKS.due("height", 6, () -> f.count(1));
            CHECKS.due("letter", 120, () -> f.count(12));
            CHECKS.due("type", 1, () -> f.count(21));
            CHECKS.due("step", 2, () -> f.count(31));
            for (int y = 0; y < 6; y++) {
                for (int x = 0; x < 5; x++) {
                    int px = x;
                    int py = y;
                    CHECKS.due("half", (double) (x - y), () -> f.get(0, px, py));
                    CHECKS.due("whole", 1000.0 * x + y, () -> f.get(2, px, py));
                    if (x % 2 == 0 && y % 2 == 0) {
                        CHECKS.due("float", 0.25 * x - 8 * y, () -> f.get(1, px, py));
                    }
                }
            }
        }
    }

    private static void pictureStays() {
        RasterForge f = Forges.with(plainFile(), 29, 60);
        f.begin(3, 3);
        f.channel(122, 2, 1);
        f.set(0, 2, 2, 77);
        f.patch(72, 0);
        faultAt("a fault at the very end", 72, f);
        CHECKS.due("width stays", 3, () -> f.count(0));
        CHECKS.due("letter stays", 122, () -> f.count(10));
        CHECKS.due("sample stays", 77.0, () -> f.get(0, 2, 2));
        CHECKS.dueIllegal("a call that throws", () -> f.begin(0, 0));
        f.encode(0);
        CHECKS.due("where stays until the next decode", 72, f::where);
        reads("a good file", 0, f);
        faultAt("an empty file", 0, new RasterForge());
    }

    private static void head() {
        for (int k = 0; k < 4; k++) {
            faultAt("magic " + k, k, Forges.with(plainFile(), k, 2));
        }
        faultAt("magic before version", 0, Forges.with(plainFile(), 0, 0, 4, 9));
        unknownAt("version 3", 4, Forges.with(plainFile(), 4, 3));
        unknownAt("version 1, width 0", 4, Forges.with(plainFile(), 4, 1, 5, 0));
        for (int k = 5; k <= 6; k++) {
            faultAt("side 0", k, Forges.with(plainFile(), k, 0));
            faultAt("side 9", k, Forges.with(plainFile(), k, 9));
        }
        faultAt("height before scheme", 6, Forges.with(plainFile(), 6, 0, 7, 4));
        unknownAt("scheme 4", 7, Forges.with(plainFile(), 7, 4));
        unknownAt("scheme 255", 7, Forges.with(plainFile(), 7, 255, 8, 0));
        faultAt("no channels", 8, Forges.with(plainFile(), 8, 0));
        faultAt("4 channels", 8, Forges.with(plainFile(), 8, 4));
        faultAt("letter 96", 9, Forges.with(plainFile(), 9, 96));
        faultAt("letter 123", 9, Forges.with(plainFile(), 9, 123));
        faultAt("type 3", 10, Forges.with(plainFile(), 10, 3));
        faultAt("step 0", 11, Forges.with(plainFile(), 11, 0));
        faultAt("step 3", 11, Forges.with(plainFile(), 11, 3));
        faultAt("the same letter", 12, Forges.with(plainFile(), 12, 97));
        faultAt("a letter before", 12, Forges.with(plainFile(), 9, 100));
        faultAt("second letter 123", 12, Forges.with(plainFile(), 12, 123));
        faultAt("second type 3", 13, Forges.with(plainFile(), 13, 3));
        faultAt("second step 0", 14, Forges.with(plainFile(), 14, 0));
    }

    private static void table() {
        for (int k = 15; k < 25; k += 2) {
            int low = k;
            RasterForge f = plainFile();
            faultAt("offset one more", low, Forges.with(f, low, f.file(low) + 1));
            faultAt("offset 256 more", low, Forges.with(plainFile(), low + 1, 1));
        }
        faultAt("the first of two", 17, Forges.with(plainFile(), 17, 0, 21, 0));
        faultAt("the table before the chunks", 23, Forges.with(plainFile(), 25, 9, 23, 0));
        faultAt("a size makes the next offset wrong", 17, Forges.with(plainFile(), 26, 7));
        faultAt("so does a later one", 21, Forges.with(plainFile(), 44, 9));
    }

    /** Behind a chunk that is not wholly there the offsets are not looked at. */
    private static void lostChunks() {
        RasterForge f = Forges.with(plainFile(), 21, 99, 23, 99);
        f.cut(50);
        faultAt("others behind a cut chunk", 50, f);
        RasterForge g = Forges.with(plainFile(), 19, 44);
        g.cut(50);
        faultAt("the cut chunk's own offset", 19, g);
        RasterForge h = Forges.with(plainFile(), 19, 44);
        h.cut(45);
        faultAt("the offset of a chunk whose size is cut", 19, h);
        RasterForge i = Forges.with(plainFile(), 21, 99);
        i.cut(45);
        faultAt("behind a chunk whose size is cut", 45, i);
        faultAt("a size beyond the file", 26, Forges.with(plainFile(), 27, 255, 17, 0, 23, 0));
        faultAt("the first offset is looked at", 15, Forges.with(plainFile(), 27, 255, 15, 0));
        RasterForge j = Forges.with(plainFile(), 17, 0);
        j.cut(20);
        faultAt("no chunk is there", 20, j);
        RasterForge k = Forges.with(plainFile(), 15, 0);
        k.cut(20);
        faultAt("but the first offset is", 15, k);
    }

    private static void chunks() {
        int[] starts = {25, 36, 43, 54, 61};
        for (int y = 0; y < 5; y++) {
            faultAt("line of chunk " + y, starts[y], Forges.with(plainFile(), starts[y], 5));
        }
        faultAt("a plain size that is less", 26, Forges.with(plainFile(), 26, 7, 17, 35));
        faultAt("the last plain size, less", 62, Forges.with(plainFile(), 62, 7));
        faultAt("the last plain size, more", 62, Forges.with(plainFile(), 62, 9));
        RasterForge f = Forges.with(plainFile(), 62, 9, 72, 0);
        faultAt("the last plain size, more, with the byte", 62, f);
        faultAt("a byte left", 72, Forges.with(plainFile(), 72, 0));
        faultAt("two bytes left", 72, Forges.with(plainFile(), 72, 0, 73, 0));
        faultAt("a packed size that is more", 15, Forges.with(packedFile(), 15, 17));
        faultAt("a packed size that is far more", 15, Forges.with(packedFile(), 16, 1));
        faultAt("a byte left behind runs", 21, Forges.with(packedFile(), 21, 0));
    }

    private static void missingBytes() {
        for (int n = 0; n < 72; n++) {
            RasterForge f = plainFile();
            f.cut(n);
            faultAt("plain, the first " + n, n, f);
        }
        for (int n = 0; n < 21; n++) {
            RasterForge f = packedFile();
            f.cut(n);
            faultAt("packed, the first " + n, n, f);
        }
    }

    private static void noNumbers() {
        faultAt("a half", 25, Forges.with(plainFile(), 29, 124));
        faultAt("a half below 0", 25, Forges.with(plainFile(), 29, 255));
        reads("the greatest half", 0, Forges.with(plainFile(), 28, 255, 29, 123));
        faultAt("a float", 25, Forges.with(plainFile(), 34, 128, 35, 127));
        faultAt("a float below 0", 43, Forges.with(plainFile(), 52, 255, 53, 255));
        reads("the greatest float", 0, Forges.with(plainFile(), 34, 127, 35, 127));
        faultAt("a later line", 61, Forges.with(plainFile(), 65, 124));
        faultAt("bits before the next chunk", 25, Forges.with(plainFile(), 29, 124, 36, 9));
        RasterForge f = Forges.with(plainFile(), 29, 128, 35, 128);
        reads("-0", 0, f);
        CHECKS.due("half -0 is told as 0", 0.0, () -> f.get(0, 0, 0));
        CHECKS.due("half -0 keeps its bits", 32768, () -> f.bits(0, 0, 0));
        CHECKS.due("float -0 is told as 0", 0.0, () -> f.get(1, 0, 0));
        CHECKS.due("float -0 keeps its bits", Integer.MIN_VALUE, () -> f.bits(1, 0, 0));
        RasterForge w = Forges.with(packedFile(), 17, 255, 18, 255);
        reads("wholes are all numbers", 1, w);
        CHECKS.due("whole of all bits", 65535, () -> w.bits(0, 0, 0));
        RasterForge c = new RasterForge();
        c.begin(1, 1);
        c.channel(97, 1, 1);
        c.encode(2);
        faultAt("a cut float", 14, Forges.with(c, 18, 128, 19, 127));
    }

    private static void runs() {
        faultAt("a run makes too many", 19, Forges.with(packedFile(), 19, 15));
        faultAt("runs make too few", 21, Forges.with(packedFile(), 19, 13));
        faultAt("a run takes too many", 17, Forges.with(packedFile(), 17, 252));
        faultAt("the second run takes too many", 19, Forges.with(packedFile(), 19, 254));
        faultAt("the third run takes too many", 20, Forges.with(packedFile(), 17, 254));
        faultAt("a run of no byte", 21, Forges.with(packedFile(), 15, 5, 21, 0));
        faultAt("a run more", 21, Forges.with(packedFile(), 15, 6, 21, 0, 22, 7));
        RasterForge none = Forges.with(packedFile(), 15, 0);
        none.cut(17);
        faultAt("no runs", 17, none);
        RasterForge f = new RasterForge();
        f.begin(8, 8);
        f.channel(97, 2, 1);
        f.channel(99, 0, 2);
        f.encode(3);
        int second = f.file(17);
        faultAt("a run in the second chunk", second + 3, Forges.with(f, second + 3, 200));
    }

    /** Runs that encode would not write, but that are as said. */
    private static void runsThatFit() {
        reads("a run of one", 1, Forges.with(packedFile(), 15, 6, 19, 13, 21, 0, 22, 128));
        RasterForge f = new RasterForge();
        f.begin(8, 4);
        f.channel(97, 2, 1);
        f.channel(98, 2, 1);
        f.channel(99, 2, 1);
        f.encode(3);
        f.cut(20);
        Forges.with(f, 20, 0, 21, 131, 22, 0, 23, 128);
        for (int k = 0; k < 128; k++) {
            f.patch(24 + k, k);
        }
        Forges.with(f, 152, 63, 153, 128);
        reads("128 unlike", 3, f);
        // 192 differences of -128: the sorted bytes are 0 and 128 in turn.
        f.cut(20);
        Forges.with(f, 20, 0, 21, 4, 22, 0, 23, 127, 24, 0, 25, 63, 26, 0, 7, 2);
        reads("128 alike", 2, f);
        CHECKS.due("the first", 0, () -> f.bits(0, 0, 0));
        CHECKS.due("the second", 32768 + 128, () -> f.bits(0, 1, 0));
        CHECKS.due("the third, a sum", 32768 + 128, () -> f.bits(0, 2, 0));
    }

    /** A size as great as the raw bytes means these, by every scheme. */
    private static void rawAsGreat() {
        for (int scheme = 1; scheme < 4; scheme++) {
            RasterForge f = new RasterForge();
            f.begin(2, 2);
            f.channel(97, 2, 1);
            f.encode(0);
            f.cut(12);
            int[] lines = {14, 0, 0, 8, 0, 1, 0, 2, 0, 3, 0, 4, 1};
            int[] line = {16, 0, 23, 0, 0, 4, 0, 1, 0, 2, 0, 1, 4, 0, 3, 0, 4, 1};
            for (int b : scheme == 1 ? line : lines) {
                f.patch(f.file(-1), b);
            }
            f.patch(7, scheme);
            reads("raw by scheme " + scheme, scheme, f);
            CHECKS.due("first", 1, () -> f.bits(0, 0, 0));
            CHECKS.due("second", 2, () -> f.bits(0, 1, 0));
            CHECKS.due("third", 3, () -> f.bits(0, 0, 1));
            CHECKS.due("fourth", 260, () -> f.bits(0, 1, 1));
        }
    }

    /** Lines without samples have chunks without bytes. */
    private static void noSamples() {
        for (int scheme = 0; scheme < 2; scheme++) {
            RasterForge f = new RasterForge();
            f.begin(1, 2);
            f.channel(97, 2, 2);
            f.encode(scheme);
            CHECKS.due("length", 24, () -> f.file(-1));
            reads("an empty line", scheme, f);
            faultAt("a byte in an empty line", 22, Forges.with(f, 22, 1, 24, 0));
        }
    }
}
