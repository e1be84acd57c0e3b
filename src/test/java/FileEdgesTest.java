/** The edges in the document's sentences on the file, its chunks and their raw bytes. */
public final class FileEdgesTest {
    private static final Checks CHECKS = new Checks("edges of the file");

    public static void main(String[] args) {
        Edges.run(FileEdgesTest.class, CHECKS);
    }

    /** The greatest file that encode can write; 1500 are reached by patch alone. */
    @Says("THE FILE is a row of at most 1500 BYTES (0 to 255);")
    static void greatestFile() {
        RasterForge f = Forges.picture(8, 8, 97, 1, 1, 98, 1, 1, 99, 1, 1);
        CHECKS.due("length", 18 + 16 + 8 * (3 + 96), () -> f.encode(0));
        CHECKS.due("the last chunk's offset", "215 2",
                () -> f.file(32) + " " + f.file(33));
        CHECKS.due("read", 0, f::decode);
        RasterForge g = Forges.picture(2, 1, 97, 2, 1);
        g.set(0, 0, 0, 65535);
        g.encode(0);
        CHECKS.due("from 0 to 255", "255 255 0 0", () -> Forges.bytesFrom(g, 17));
    }

    /**
     * The document leaves free what comes behind an object's 512th call, and before it no run
     * reaches 1500 bytes; this looks that the row's end holds all the same.
     */
    @Says("THE FILE is a row of at most 1500 BYTES (0 to 255);")
    static void fullFile() {
        RasterForge f = new RasterForge();
        for (int k = 0; k < 1499; k++) {
            f.patch(k, k % 256);
        }
        CHECKS.due("the last that comes behind", -1, () -> f.patch(1499, 77));
        CHECKS.dueIndex("one more", () -> f.patch(1500, 1));
        CHECKS.dueIndex("two more", () -> f.patch(1501, 1));
        CHECKS.due("length", 1500, () -> f.file(-1));
        CHECKS.due("a change of the last", 77, () -> f.patch(1499, 78));
        CHECKS.due("a change of the first", 0, () -> f.patch(0, 9));
        CHECKS.dueIllegal("a full file is read", f::decode);
        CHECKS.due("all stay", 0, () -> f.cut(1500));
        CHECKS.due("one goes", 1, () -> f.cut(1499));
        CHECKS.due("and one comes", -1, () -> f.patch(1499, 5));
    }

    @Says("numbers of two BYTES have the lower one first.")
    static void lowerByteFirst() {
        RasterForge f = unlike(8, 8, 2);
        CHECKS.due("length", 18 + 4 + 2 * (3 + 192), () -> f.encode(3));
        CHECKS.due("offsets", "22 0 217 0", () -> Forges.bytesFrom(Forges.cutTo(f, 22), 18));
        RasterForge g = unlike(8, 5, 1);
        g.encode(3);
        CHECKS.due("an offset above 255", 22 + 3 + 384, () -> g.file(20) + 256 * g.file(21));
        CHECKS.due("its lower byte", 409 - 256, () -> g.file(20));
        CHECKS.due("a size of 384: lower byte", 128, () -> g.file(23));
        CHECKS.due("a size of 384: upper byte", 1, () -> g.file(24));
        CHECKS.due("read", 3, g::decode);
    }

    /** Three channels of one type with samples that no scheme makes fewer. */
    private static RasterForge unlike(int width, int height, int type) {
        RasterForge f = Forges.picture(width, height, 97, type, 1, 98, type, 1, 99, type, 1);
        int number = 1;
        for (int c = 0; c < 3; c++) {
            for (int k = 0; k < width * height; k++) {
                number = number * 1103515245 + 12345;
                double v = (number >>> 8) * (type == 2 ? 0x1p-8 : Math.pow(0.37, number >>> 27));
                f.set(c, k % width, k / width, v);
            }
        }
        return f;
    }

    @Says("It is: 118, 47, 49, 1; 2; the width; the height; a SCHEME (0 to 3); how many CHANNELS;"
            + " for each its LETTER, TYPE, STEP; for each CHUNK in two BYTES the OFFSET in THE FILE"
            + " at which it begins; the CHUNKS one behind the other: y of its first line, its size"
            + " in two BYTES, so many BYTES; nothing else.")
    static void wholeFiles() {
        RasterForge f = new RasterForge();
        for (int s = 0; s <= 3; s++) {
            int scheme = s;
            CHECKS.due("one sample", 19, () -> f.encode(scheme));
            CHECKS.due("one sample: file",
                    "118 47 49 1 2 1 1 " + s + " 1 97 0 1 14 0 0 2 0 0 0",
                    () -> Forges.bytesFrom(f, 0));
        }
        RasterForge g = Forges.picture(1, 3, 97, 1, 2, 109, 2, 1, 122, 0, 2);
        g.set(0, 0, 2, 1);
        g.set(1, 0, 1, 772);
        g.set(2, 0, 0, 2);
        CHECKS.due("three channels", 51, () -> g.encode(0));
        CHECKS.due("three channels: file", "118 47 49 1 2 1 3 0 3 97 1 2 109 2 1 122 0 2"
                + " 24 0 35 0 40 0"
                + " 0 8 0 0 0 0 0 0 0 0 64"
                + " 1 2 0 4 3"
                + " 2 8 0 0 0 128 63 0 0 0 0", () -> Forges.bytesFrom(g, 0));
    }

    /** What was in the file before is gone, also where it was longer. */
    @Says("so many BYTES; nothing else.")
    static void nothingElse() {
        RasterForge f = Forges.picture(8, 1, 97, 1, 1);
        CHECKS.due("long", 17 + 32, () -> f.encode(0));
        f.patch(49, 200);
        f.begin(1, 1);
        f.channel(98, 2, 1);
        CHECKS.due("short", 19, () -> f.encode(0));
        CHECKS.due("short: file", "118 47 49 1 2 1 1 0 1 98 2 1 14 0 0 2 0 0 0",
                () -> Forges.bytesFrom(f, 0));
        CHECKS.dueIndex("behind it", () -> f.file(19));
        CHECKS.due("read", 0, f::decode);
    }

    @Says("A CHUNK has one line with SCHEME 0, 1,")
    static void chunksOfOneLine() {
        for (int scheme = 0; scheme <= 1; scheme++) {
            for (int height = 1; height <= 8; height++) {
                StringBuilder due = new StringBuilder();
                for (int y = 0; y < height; y++) {
                    due.append(y).append(": 2 ");
                }
                hasChunks(height, scheme, height, due.toString());
            }
        }
    }

    @Says("four lines (the last one perhaps fewer) with 2, 3.")
    static void chunksOfFourLines() {
        String[] due = {"0: 2 ", "0: 4 ", "0: 6 ", "0: 8 ", "0: 8 4: 2 ", "0: 8 4: 4 ",
            "0: 8 4: 6 ", "0: 8 4: 8 "};
        for (int scheme = 2; scheme <= 3; scheme++) {
            for (int height = 1; height <= 8; height++) {
                hasChunks(height, scheme, height <= 4 ? 1 : 2, due[height - 1]);
            }
        }
    }

    /** One column of wholes that no scheme makes fewer: each chunk as its y and its size. */
    private static void hasChunks(int height, int scheme, int chunks, String due) {
        RasterForge f = Forges.picture(1, height, 97, 2, 1);
        for (int y = 0; y < height; y++) {
            f.set(0, 0, y, 7 + y * y * 1300);
        }
        String what = "height " + height + ", scheme " + scheme;
        CHECKS.due(what, 12 + 5 * chunks + 2 * height, () -> f.encode(scheme));
        StringBuilder got = new StringBuilder();
        for (int k = 0; k < chunks; k++) {
            int start = f.file(12 + 2 * k) + 256 * f.file(13 + 2 * k);
            got.append(f.file(start)).append(": ");
            got.append(f.file(start + 1) + 256 * f.file(start + 2)).append(' ');
        }
        CHECKS.due(what + ": chunks", due, got::toString);
        f.begin(1, 1);
        CHECKS.due(what + ": read", scheme, f::decode);
        CHECKS.due(what + ": last line", 7 + (height - 1) * (height - 1) * 1300,
                () -> f.bits(0, 0, height - 1));
    }

    @Says("ITS RAW BYTES: line by line, CHANNEL by CHANNEL")
    static void lineByLine() {
        RasterForge f = Forges.picture(2, 2, 97, 2, 1, 98, 2, 1);
        for (int k = 0; k < 4; k++) {
            f.set(0, k % 2, k / 2, 257 * (k + 1));
            f.set(1, k % 2, k / 2, 257 * (k + 5));
        }
        for (int s = 2; s <= 3; s++) {
            int scheme = s;
            CHECKS.due("four lines at once", 36, () -> f.encode(scheme));
            CHECKS.due("scheme " + s, "17 0 0 16 0 1 1 2 2 5 5 6 6 3 3 4 4 7 7 8 8",
                    () -> Forges.bytesFrom(f, 15));
        }
        f.encode(0);
        CHECKS.due("line and line", "19 0 30 0 0 8 0 1 1 2 2 5 5 6 6 1 8 0 3 3 4 4 7 7 8 8",
                () -> Forges.bytesFrom(f, 15));
    }

    @Says("(those that have SAMPLES in the line)")
    static void linesWithoutSamples() {
        RasterForge f = Forges.picture(1, 2, 97, 2, 2, 98, 2, 1, 99, 2, 2);
        f.set(0, 0, 0, 1);
        f.set(1, 0, 0, 2);
        f.set(1, 0, 1, 3);
        f.set(2, 0, 0, 4);
        f.encode(0);
        CHECKS.due("one of three", "22 0 31 0 0 6 0 1 0 2 0 4 0 1 2 0 3 0",
                () -> Forges.bytesFrom(f, 18));
        RasterForge last = Forges.picture(1, 2, 97, 2, 2);
        last.set(0, 0, 0, 772);
        for (int s = 0; s <= 1; s++) {
            int scheme = s;
            last.encode(scheme);
            CHECKS.due("the last line is empty", "16 0 21 0 0 2 0 4 3 1 0 0",
                    () -> Forges.bytesFrom(last, 12));
            CHECKS.due("the last line is read", scheme, last::decode);
        }
        RasterForge g = Forges.picture(1, 3, 97, 0, 2);
        g.set(0, 0, 2, 1);
        for (int s = 0; s <= 1; s++) {
            int scheme = s;
            g.encode(scheme);
            CHECKS.due("an empty line by scheme " + s, "18 0 23 0 26 0 0 2 0 0 0 1 0 0 2 2 0 0 60",
                    () -> Forges.bytesFrom(g, 12));
            CHECKS.due("an empty line is read", scheme, g::decode);
            CHECKS.due("what is behind it", 1.0, () -> g.get(0, 0, 2));
        }
    }

    @Says("by rising x: BITS in two BYTES, of FLOAT in four, the lowest first.")
    static void lowestByteFirst() {
        RasterForge f = Forges.picture(3, 1, 97, 1, 2, 98, 0, 2, 99, 2, 1);
        f.set(0, 0, 0, 0.1);
        f.set(0, 2, 0, -0.1);
        f.set(1, 0, 0, 0.1);
        f.set(1, 2, 0, -0.1);
        f.set(2, 0, 0, 258);
        f.set(2, 2, 0, 65534);
        f.encode(0);
        CHECKS.due("raw bytes", "205 204 204 61 205 204 204 189 102 46 102 174 2 1 0 0 254 255",
                () -> Forges.bytesFrom(f, 23));
    }

    @Says("With SCHEME 0 these are its BYTES.")
    static void plainIsNeverPacked() {
        RasterForge f = Forges.picture(8, 1, 97, 1, 1);
        CHECKS.due("32 zeros", 17 + 32, () -> f.encode(0));
        CHECKS.due("packed they are fewer", 17 + 4, () -> f.encode(1));
    }
}
