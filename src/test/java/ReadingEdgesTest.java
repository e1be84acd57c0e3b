/** The edges in the document's sentence on reading: each fault that it names, in its order. */
public final class ReadingEdgesTest {
    private static final Checks CHECKS = new Checks("edges of reading");
    /** Where the lines of plainFile() begin. */
    private static final int[] LINES = {25, 36, 43, 54, 61};

    public static void main(String[] args) {
        Edges.run(ReadingEdgesTest.class, CHECKS);
    }

    /** 72 bytes: the table at 15, lines at 25, 36, 43, 54, 61 with 8, 4, 8, 4, 8 bytes. */
    private static RasterForge plainFile() {
        RasterForge f = Forges.picture(2, 5, 97, 0, 1, 99, 1, 2);
        f.encode(0);
        return f;
    }

    /** 21 bytes: the chunk at 14 with its runs 255, 0, 14, 128 from 17 on, which make 16. */
    private static RasterForge packedFile() {
        RasterForge f = Forges.picture(8, 1, 97, 2, 1);
        f.encode(1);
        return f;
    }

    /** A file of every scheme with eight lines of three types, some of which pack. */
    private static RasterForge bigFile(int scheme) {
        RasterForge f = Forges.picture(4, 8, 98, 0, 1, 110, 1, 2, 121, 2, 1);
        for (int k = 0; k < 32; k++) {
            f.set(0, k % 4, k / 4, 0.1 * k);
            f.set(2, k % 4, k / 4, k);
        }
        f.set(1, 2, 6, 0.3);
        f.encode(scheme);
        return f;
    }

    private static void faultAt(String what, int offset, RasterForge f) {
        CHECKS.dueIllegal(what, f::decode);
        CHECKS.due(what + ": where", offset, f::where);
    }

    private static void unknownAt(String what, int offset, RasterForge f) {
        CHECKS.dueUnknown(what, f::decode);
        CHECKS.due(what + ": where", offset, f::where);
    }

    private static void reads(String what, int scheme, RasterForge f) {
        CHECKS.due(what, scheme, f::decode);
        CHECKS.due(what + ": where", -2, f::where);
    }

    /** Whatever is wrong with the file, it is not the byte at this offset. */
    private static void noFaultAt(String what, int offset, RasterForge f) {
        Checks.told(f::decode);
        CHECKS.due(what, false, () -> f.where() == offset);
    }

    /** Faults of plainFile() in the order of reading: place, byte, offset of the fault. */
    private static int[][] faultsInOrder() {
        return new int[][] {
            {0, 0, 0}, {1, 0, 1}, {2, 255, 2}, {3, 2, 3}, {4, 3, 4}, {5, 9, 5}, {6, 0, 6},
            {7, 4, 7}, {8, 4, 8}, {9, 96, 9}, {10, 3, 10}, {11, 0, 11}, {12, 97, 12},
            {13, 255, 13}, {14, 3, 14}, {15, 24, 15}, {18, 1, 17}, {19, 44, 19}, {21, 0, 21},
            {24, 255, 23}, {25, 1, 25}, {29, 124, 25}, {36, 0, 36}, {40, 255, 36}, {43, 255, 43},
            {47, 124, 43}, {54, 2, 54}, {58, 252, 54}, {61, 5, 61}, {62, 7, 62}, {65, 124, 61},
            {72, 0, 72},
        };
    }

    @Says("READING goes from OFFSET 0 on; the first FAULT counts,")
    static void firstFaultCounts() {
        int[][] faults = faultsInOrder();
        for (int i = 0; i < faults.length; i++) {
            faultOf(faults[i], Forges.with(plainFile(), faults[i][0], faults[i][1]));
            for (int j = i + 1; j < faults.length; j++) {
                faultOf(faults[i], Forges.with(plainFile(),
                        faults[i][0], faults[i][1], faults[j][0], faults[j][1]));
            }
        }
    }

    /** The same for runs: a file of 30 bytes with lines at 16 and 23, four packed bytes each. */
    @Says("READING goes from OFFSET 0 on; the first FAULT counts,")
    static void firstPackedFaultCounts() {
        int[][] faults = {{12, 0, 12}, {14, 0, 14}, {16, 5, 16}, {19, 252, 19}, {21, 15, 21},
            {21, 13, 23}, {20, 124, 16}, {23, 0, 23}, {24, 17, 24}, {26, 252, 26}, {28, 15, 28},
            {28, 13, 30}, {27, 124, 23}, {30, 0, 30}};
        for (int i = 0; i < faults.length; i++) {
            for (int j = i; j < faults.length; j++) {
                RasterForge f = Forges.picture(8, 2, 97, 0, 1);
                f.encode(1);
                // Where both are of one byte, the first alone is left.
                faultOf(faults[i], Forges.with(f,
                        faults[j][0], faults[j][1], faults[i][0], faults[i][1]));
            }
        }
    }

    private static void faultOf(int[] fault, RasterForge f) {
        String what = "first at fault is byte " + fault[0];
        if (fault[2] == 4 || fault[2] == 7) {
            unknownAt(what, fault[2], f);
        } else {
            faultAt(what, fault[2], f);
        }
    }

    @Says("at the OFFSET where that begins of which something is not as said,")
    static void whereItBegins() {
        faultAt("the upper byte of an offset", 15, Forges.with(plainFile(), 16, 1));
        faultAt("both bytes of an offset", 21, Forges.with(plainFile(), 21, 0, 22, 9));
        faultAt("the upper byte of a size", 62, Forges.with(plainFile(), 63, 1));
        faultAt("the last byte of bits", 61, Forges.with(plainFile(), 71, 127, 70, 128));
    }

    @Says("or, where BYTES are missing, behind the last one:")
    static void missingBytes() {
        for (int n = 0; n < 72; n++) {
            faultAt("plain, the first " + n, n, Forges.cutTo(plainFile(), n));
        }
        for (int n = 0; n < 21; n++) {
            faultAt("packed, the first " + n, n, Forges.cutTo(packedFile(), n));
        }
        for (int scheme = 0; scheme <= 3; scheme++) {
            int length = bigFile(scheme).file(-1);
            reads("scheme " + scheme + ", whole", scheme, bigFile(scheme));
            for (int n = 0; n < length; n++) {
                faultAt("scheme " + scheme + ", the first " + n, n,
                        Forges.cutTo(bigFile(scheme), n));
            }
        }
    }

    /** 826 bytes, so that offsets have an upper byte too. */
    @Says("or, where BYTES are missing, behind the last one:")
    static void missingBytesOfTheGreatestFile() {
        for (int n = 0; n < 826; n++) {
            RasterForge f = Forges.picture(8, 8, 97, 1, 1, 98, 1, 1, 99, 1, 1);
            f.encode(0);
            faultAt("the first " + n, n, Forges.cutTo(f, n));
        }
    }

    /** A version or scheme that is not there is missing, and not unknown. */
    @Says("or, where BYTES are missing, behind the last one:")
    static void missingIsNotUnknown() {
        faultAt("nothing", 0, new RasterForge());
        faultAt("no version", 4, Forges.cutTo(plainFile(), 4));
        faultAt("no scheme", 7, Forges.cutTo(plainFile(), 7));
    }

    @Says("the first four BYTES, one by one;")
    static void firstFour() {
        int[] due = {118, 47, 49, 1};
        for (int k = 0; k < 4; k++) {
            for (int b = 0; b <= 255; b++) {
                RasterForge f = Forges.with(plainFile(), k, b);
                if (b == due[k]) {
                    reads("byte " + k, 0, f);
                } else {
                    faultAt("byte " + k + " is " + b, k, f);
                }
            }
        }
        faultAt("one that is wrong, the others missing", 1,
                Forges.adding(new RasterForge(), 118, 46));
    }

    @Says("the version is UNKNOWN if it is not 2;")
    static void version() {
        for (int b = 0; b <= 255; b++) {
            if (b != 2) {
                unknownAt("version " + b, 4, Forges.with(plainFile(), 4, b));
            }
        }
        reads("version 2", 0, plainFile());
        unknownAt("nothing behind it", 4, Forges.adding(new RasterForge(), 118, 47, 49, 1, 1));
        unknownAt("unknown, and no width", 4, Forges.with(plainFile(), 4, 1, 5, 0));
        faultAt("the bytes before it count first", 3, Forges.with(plainFile(), 3, 0, 4, 1));
    }

    @Says("the version is UNKNOWN if it is not 2; width, height;")
    static void sides() {
        for (int k = 5; k <= 6; k++) {
            for (int b = 0; b <= 255; b++) {
                RasterForge f = Forges.with(plainFile(), k, b);
                if (b < 1 || b > 8) {
                    faultAt("side at " + k + " is " + b, k, f);
                } else {
                    noFaultAt("side at " + k + " is " + b, k, f);
                }
            }
        }
        faultAt("width before height", 5, Forges.with(plainFile(), 5, 0, 6, 0));
    }

    @Says("the SCHEME is UNKNOWN if it is above 3;")
    static void scheme() {
        for (int b = 4; b <= 255; b++) {
            unknownAt("scheme " + b, 7, Forges.with(plainFile(), 7, b));
        }
        for (int b = 0; b <= 3; b++) {
            noFaultAt("scheme " + b, 7, Forges.with(plainFile(), 7, b));
        }
        faultAt("the height counts first", 6, Forges.with(plainFile(), 6, 9, 7, 9));
        unknownAt("it counts before the channels", 7, Forges.with(plainFile(), 7, 4, 8, 0));
    }

    @Says("how many CHANNELS, each LETTER, TYPE, STEP;")
    static void howManyChannels() {
        for (int b = 0; b <= 255; b++) {
            RasterForge f = Forges.with(plainFile(), 8, b);
            if (b < 1 || b > 3) {
                faultAt(b + " channels", 8, f);
            } else {
                noFaultAt(b + " channels", 8, f);
            }
        }
        // The rest would be a table and a line for none.
        faultAt("10 channels", 8,
                Forges.adding(new RasterForge(), 118, 47, 49, 1, 2, 1, 1, 0, 10, 0, 0, 0, 0));
    }

    @Says("how many CHANNELS, each LETTER, TYPE, STEP;")
    static void letters() {
        int[] before = {96, 98, 110};
        for (int c = 0; c < 3; c++) {
            int place = 9 + 3 * c;
            for (int b = 0; b <= 255; b++) {
                RasterForge f = Forges.with(bigFile(0), place, b);
                if (b <= before[c] || b > 122) {
                    faultAt("letter " + b + " of channel " + c, place, f);
                } else {
                    noFaultAt("letter " + b + " of channel " + c, place, f);
                }
            }
        }
        faultAt("as great as the next", 12, Forges.with(bigFile(0), 9, 110));
        faultAt("greater than the next", 12, Forges.with(bigFile(0), 9, 111));
        reads("just below the next", 0, Forges.with(bigFile(0), 9, 109));
    }

    @Says("how many CHANNELS, each LETTER, TYPE, STEP;")
    static void typesAndSteps() {
        for (int c = 0; c < 3; c++) {
            int place = 10 + 3 * c;
            for (int b = 0; b <= 255; b++) {
                RasterForge type = Forges.with(bigFile(0), place, b);
                RasterForge step = Forges.with(bigFile(0), place + 1, b);
                if (b > 2) {
                    faultAt("type " + b + " of channel " + c, place, type);
                } else {
                    noFaultAt("type " + b + " of channel " + c, place, type);
                }
                if (b < 1 || b > 2) {
                    faultAt("step " + b + " of channel " + c, place + 1, step);
                } else {
                    noFaultAt("step " + b + " of channel " + c, place + 1, step);
                }
            }
        }
    }

    @Says("the OFFSETS one by one (each where its CHUNK begins: the first behind the table,")
    static void firstOffset() {
        for (int b = 0; b <= 255; b++) {
            if (b != 25) {
                faultAt("first offset " + b, 15, Forges.with(plainFile(), 15, b));
            }
            if (b != 0) {
                faultAt("first offset 256 * " + b + " more", 15, Forges.with(plainFile(), 16, b));
            }
        }
    }

    @Says("others behind the CHUNK before, by the sizes that stand there;")
    static void otherOffsets() {
        for (int k = 1; k < 5; k++) {
            int place = 15 + 2 * k;
            int due = LINES[k];
            faultAt("one less", place, Forges.with(plainFile(), place, due - 1));
            faultAt("one more", place, Forges.with(plainFile(), place, due + 1));
            faultAt("256 more", place, Forges.with(plainFile(), place + 1, 1));
            faultAt("the size before, one less", place,
                    Forges.with(plainFile(), LINES[k - 1] + 1, due - LINES[k - 1] - 4));
            faultAt("the size before, one more", place,
                    Forges.with(plainFile(), LINES[k - 1] + 1, due - LINES[k - 1] - 2));
        }
        faultAt("offset and size fit, but the size is wrong", 26,
                Forges.with(plainFile(), 26, 7, 17, 35, 36, 0, 37, 0, 35, 1, 19, 38, 39, 0, 21,
                        41, 42, 0, 23, 44));
    }

    @Says("behind a CHUNK whose size, or that itself, is not wholly there, others are not looked"
            + " at,")
    static void offsetsBehindALostChunk() {
        for (int k = 0; k < 4; k++) {
            int start = LINES[k];
            int next = 15 + 2 * (k + 1);
            for (int n = start; n < LINES[k + 1]; n++) {
                faultAt("chunk " + k + " is cut at " + n, n,
                        Forges.cutTo(Forges.with(plainFile(), next, 0, 23, 0), n));
                faultAt("but its own offset counts", 15 + 2 * k,
                        Forges.cutTo(Forges.with(plainFile(), 15 + 2 * k, 0), n));
            }
            faultAt("chunk " + k + " is wholly there", next,
                    Forges.cutTo(Forges.with(plainFile(), next, 0), LINES[k + 1]));
        }
        faultAt("a size beyond the end", 26, Forges.with(plainFile(), 27, 1, 17, 0, 19, 0, 21, 0));
        faultAt("a size one beyond the end", 26,
                Forges.with(plainFile(), 26, 72 - 28 + 1, 17, 0, 19, 0));
        faultAt("a size up to the end", 17, Forges.with(plainFile(), 26, 72 - 28));
        faultAt("an offset at the end, and one that is not looked at", 26,
                Forges.with(plainFile(), 26, 72 - 28, 17, 72, 19, 0));
    }

    @Says("but the two BYTES must be there);")
    static void bytesOfTheTable() {
        for (int n = 15; n < 25; n++) {
            faultAt("the table cut at " + n, n, Forges.cutTo(plainFile(), n));
        }
        faultAt("no offset is looked at but the first", 20,
                Forges.cutTo(Forges.with(plainFile(), 17, 9), 20));
        faultAt("half of an offset is not looked at", 16,
                Forges.cutTo(Forges.with(plainFile(), 15, 9), 16));
        faultAt("the first is", 15, Forges.cutTo(Forges.with(plainFile(), 15, 9), 17));
    }

    @Says("then the CHUNKS: y, the size:")
    static void linesOfChunks() {
        for (int k = 0; k < 5; k++) {
            for (int b = 0; b <= 255; b++) {
                if (b != k) {
                    faultAt("y " + b + " of chunk " + k, LINES[k],
                            Forges.with(plainFile(), LINES[k], b));
                }
            }
        }
        RasterForge empty = Forges.picture(1, 3, 97, 2, 2);
        empty.encode(1);
        faultAt("y 0 of a line without bytes", 23, Forges.with(empty, 23, 0));
        for (int scheme = 1; scheme <= 3; scheme++) {
            RasterForge f = bigFile(scheme);
            int second = f.file(20) + 256 * f.file(21);
            int y = f.file(second);
            faultAt("the second y by scheme " + scheme, second, Forges.with(f, second, y - 1));
            faultAt("and one more", second, Forges.with(f, second, y + 1));
            reads("as it was", scheme, Forges.with(f, second, y));
        }
    }

    @Says("with SCHEME 0 just as many as the RAW BYTES,")
    static void sizesOfPlainChunks() {
        int[] sizes = {0, 1, 7, 9, 12, 255};
        for (int size : sizes) {
            faultAt("the last size " + size, 62, Forges.with(plainFile(), 62, size));
        }
        faultAt("one more, with the byte", 62, Forges.with(plainFile(), 62, 9, 72, 0));
        faultAt("one less, without the byte", 62,
                Forges.cutTo(Forges.with(plainFile(), 62, 7), 71));
        reads("just as many", 0, Forges.with(plainFile(), 62, 8));
        // A size that is less would be packed by the other schemes: 255 0 14 128 for 16.
        faultAt("plain ones are never packed", 15, Forges.with(packedFile(), 7, 0));
        // An empty line has no bytes.
        RasterForge f = Forges.picture(1, 2, 97, 2, 2);
        f.encode(0);
        faultAt("a byte in an empty line", 22, Forges.with(f, 22, 1, 24, 0));
    }

    @Says("else not more than the RAW (CUT) ones,")
    static void sizesOfOtherChunks() {
        faultAt("one more than raw", 15, Forges.with(packedFile(), 15, 17));
        faultAt("256 more", 15, Forges.with(packedFile(), 16, 1));
        RasterForge f = Forges.with(packedFile(), 15, 17);
        faultAt("one more than raw, all there", 15,
                Forges.adding(f, 0, 0, 0, 0, 0, 0, 0, 0, 0, 0, 0, 0, 0));
        RasterForge g = Forges.adding(Forges.with(packedFile(), 15, 16),
                0, 0, 0, 0, 0, 0, 0, 0, 0, 0, 0, 1);
        reads("as many as raw", 1, g);
        CHECKS.due("are raw", "255 32782 0 0 0 0 0 256", () -> Forges.bitsOf(g, 0));
        RasterForge empty = Forges.picture(1, 2, 97, 2, 2);
        empty.encode(1);
        faultAt("a byte in an empty line", 22, Forges.with(empty, 22, 1, 24, 0));
    }

    @Says("else not more than the RAW (CUT) ones,")
    static void sizesOfCutChunks() {
        // One float: three bytes by scheme 2, four by the others.
        for (int scheme = 1; scheme <= 3; scheme++) {
            RasterForge f = Forges.picture(1, 1, 97, 1, 1);
            f.set(0, 0, 0, Float.intBitsToFloat(0x3F123400));
            f.encode(scheme);
            int size = scheme == 2 ? 3 : 4;
            CHECKS.due("size by scheme " + scheme, size, () -> f.file(15));
            faultAt("one more by scheme " + scheme, 15,
                    Forges.adding(Forges.with(f, 15, size + 1), 0));
            f.cut(17 + size);
            reads("as many by scheme " + scheme, scheme, Forges.with(f, 15, size));
        }
    }

    @Says("and so many BYTES there;")
    static void bytesOfChunks() {
        faultAt("plain: one is missing", 71, Forges.cutTo(plainFile(), 71));
        faultAt("plain: all are missing", 64, Forges.cutTo(plainFile(), 64));
        faultAt("plain: half a size", 63, Forges.cutTo(plainFile(), 63));
        faultAt("plain: half a size that is less", 63,
                Forges.cutTo(Forges.with(plainFile(), 62, 7), 63));
        faultAt("plain: half a size that is more", 63,
                Forges.cutTo(Forges.with(plainFile(), 62, 9), 63));
        faultAt("packed: half a size that is more", 16,
                Forges.cutTo(Forges.with(packedFile(), 15, 17), 16));
        faultAt("packed: one is missing", 20, Forges.cutTo(packedFile(), 20));
        faultAt("packed: a size of one more", 21, Forges.with(packedFile(), 15, 5));
        faultAt("packed: a size as great as raw", 21, Forges.with(packedFile(), 15, 16));
        faultAt("a size that is too great counts before", 15, Forges.with(packedFile(), 15, 17));
        faultAt("they count before the runs", 20,
                Forges.cutTo(Forges.with(packedFile(), 17, 127), 20));
    }

    /** Three channels of 32 wholes, for which runs must make 192 bytes: a file with these. */
    private static RasterForge runs(int scheme, int... bytes) {
        RasterForge f = Forges.picture(8, 4, 97, 2, 1, 98, 2, 1, 99, 2, 1);
        f.encode(scheme);
        f.cut(20);
        return Forges.adding(Forges.adding(f, 0, bytes.length, 0), bytes);
    }

    /** A head, then so many bytes of 128, then others. */
    private static int[] run(int head, int many, int... others) {
        int[] bytes = new int[1 + many + others.length];
        bytes[0] = head;
        for (int k = 1; k <= many; k++) {
            bytes[k] = 128;
        }
        System.arraycopy(others, 0, bytes, 1 + many, others.length);
        return bytes;
    }

    @Says("RUNS (a BYTE n below 128: the next one n + 1 times;")
    static void runsOfOneByte() {
        reads("127 and 63", 2, runs(2, 127, 128, 63, 128));
        reads("0 and 127 and 62", 2, runs(2, 0, 128, 127, 128, 62, 128));
        reads("63 and 127", 2, runs(2, 63, 128, 127, 128));
        reads("0 twice", 2, runs(2, 0, 128, 0, 128, 127, 128, 61, 128));
        RasterForge f = runs(2, 0, 5, 127, 128, 62, 128);
        f.decode();
        // 5 at all even and odd places, as differences in each line.
        CHECKS.due("0 makes one", "1285 2570 3855 5140", () ->
                f.bits(0, 0, 0) + " " + f.bits(0, 1, 0) + " " + f.bits(0, 2, 0) + " "
                        + f.bits(0, 3, 0));
    }

    @Says("else the 256 - n BYTES behind it)")
    static void runsOfManyBytes() {
        reads("128 makes 128", 2, runs(2, run(128, 128, 63, 128)));
        reads("129 makes 127", 2, runs(2, run(129, 127, 64, 128)));
        reads("255 makes one", 2, runs(2, 255, 128, 127, 128, 62, 128));
        int[] unlike = run(128, 128, 63, 128);
        unlike[1] = 5;
        unlike[2] = 129;
        unlike[128] = 130;
        RasterForge g = runs(2, unlike);
        reads("128 of many kinds", 2, g);
        // 6 from the second of 96 even places on, 8 from the 32nd of the odd ones on.
        CHECKS.due("128 of many kinds: the first", "1541 3083",
                () -> g.bits(0, 0, 0) + " " + g.bits(0, 1, 0));
        CHECKS.due("128 of many kinds: from its last on", "10794 12848",
                () -> g.bits(0, 6, 1) + " " + g.bits(0, 7, 1));
        faultAt("128 makes no 127", 152, runs(2, run(128, 128, 64, 128)));
        faultAt("128 makes no 129", 154, runs(2, run(128, 128, 62, 128)));
        RasterForge f = runs(2, 254, 5, 129, 127, 128, 61, 128);
        f.decode();
        // 5, then 6 everywhere: 6 * 256 + 5 at first, then 6 * 257 more each.
        CHECKS.due("each byte behind it", "1541 3083", () ->
                f.bits(0, 0, 0) + " " + f.bits(0, 1, 0));
    }

    @Says("that end with the size,")
    static void runsEndWithTheSize() {
        // 17: 255 0 14 128, and bytes behind the chunk that runs may not take.
        faultAt("a byte without the one it repeats", 19,
                Forges.with(packedFile(), 15, 3));
        faultAt("the first run takes one too many", 17, Forges.with(packedFile(), 17, 252));
        faultAt("the first run takes far too many", 17, Forges.with(packedFile(), 17, 240));
        faultAt("the second run takes one too many", 19, Forges.with(packedFile(), 19, 254));
        faultAt("a head alone", 21, Forges.adding(Forges.with(packedFile(), 15, 5), 0));
        faultAt("a head alone, of bytes", 20, Forges.with(packedFile(), 17, 254, 20, 255));
        RasterForge f = bigFile(1);
        int second = f.file(20) + 256 * f.file(21);
        faultAt("bytes of the next chunk are none of its own", second - 1,
                lastByteAsHead(f, second));
    }

    /** Makes the first chunk of the file one run of all but its last byte, which is a head. */
    private static RasterForge lastByteAsHead(RasterForge f, int second) {
        int start = f.file(18) + 256 * f.file(19);
        int size = second - start - 3;
        return Forges.with(f, start + 3, 256 - (size - 2), second - 1, 0);
    }

    @Says("and make just as many BYTES as wanted")
    static void runsMakeAsManyAsWanted() {
        reads("16", 1, packedFile());
        faultAt("17", 19, Forges.with(packedFile(), 19, 15));
        faultAt("129", 19, Forges.with(packedFile(), 19, 127));
        faultAt("15", 21, Forges.with(packedFile(), 19, 13));
        faultAt("2", 21, Forges.with(packedFile(), 19, 0));
        reads("16 by other runs", 1, Forges.with(packedFile(), 17, 0, 18, 9));
        reads("16 by one run", 1, Forges.cutTo(Forges.with(packedFile(), 15, 2, 17, 15), 19));
        faultAt("17 by one run", 17, Forges.cutTo(Forges.with(packedFile(), 15, 2, 17, 16), 19));
        faultAt("192 wanted, 191", 27, runs(3, 127, 128, 62, 128));
        faultAt("192 wanted, 193", 25, runs(3, 127, 128, 64, 128));
        faultAt("192 wanted, 256", 25, runs(3, 127, 128, 127, 128));
    }

    @Says("(FAULT at the first BYTE of a RUN that goes beyond either;")
    static void runsThatGoBeyond() {
        faultAt("a run more", 21, Forges.adding(Forges.with(packedFile(), 15, 6), 0, 7));
        faultAt("a run more, of a byte behind", 21,
                Forges.adding(Forges.with(packedFile(), 15, 6), 255, 7));
        faultAt("beyond both", 17, Forges.with(packedFile(), 17, 128));
        faultAt("the third run", 21,
                Forges.adding(Forges.with(packedFile(), 15, 6, 19, 13), 1, 7));
        reads("the third run fits", 1,
                Forges.adding(Forges.with(packedFile(), 15, 6, 19, 13), 0, 7));
        // 15 and then two, though both are there.
        faultAt("bytes that are there", 19,
                Forges.adding(Forges.with(packedFile(), 15, 5, 17, 14, 19, 254), 2));
        reads("one of them", 1,
                Forges.with(packedFile(), 17, 14, 19, 255));
    }

    @Says("behind the CHUNK if they are too few);")
    static void tooFew() {
        faultAt("none", 17, Forges.cutTo(Forges.with(packedFile(), 15, 0), 17));
        faultAt("none, and bytes behind", 17, Forges.with(packedFile(), 15, 0));
        faultAt("one run", 19, Forges.with(packedFile(), 15, 2));
        faultAt("15 of 16", 21, Forges.with(packedFile(), 19, 13));
        faultAt("15 of 16, and a byte left", 21, Forges.with(packedFile(), 19, 13, 21, 0));
        RasterForge f = bigFile(3);
        int second = f.file(20) + 256 * f.file(21);
        int start = f.file(18);
        int size = second - start - 3;
        // The first chunk becomes one run of many bytes, which are fewer than wanted.
        faultAt("the first of two chunks", second,
                Forges.with(f, start + 3, 256 - (size - 1)));
    }

    @Says("BITS that are no numbers (FAULT at the y of the CHUNK);")
    static void bitsThatAreNoNumbers() {
        for (int k = 0; k < 5; k++) {
            int start = LINES[k];
            faultAt("the first half of line " + k, start,
                    Forges.with(plainFile(), start + 4, 124));
            faultAt("the second half, below 0", start,
                    Forges.with(plainFile(), start + 6, 252));
            reads("the greatest half", 0,
                    Forges.with(plainFile(), start + 3, 255, start + 4, 123));
        }
        for (int k = 0; k < 5; k += 2) {
            int start = LINES[k];
            faultAt("the float of line " + k, start,
                    Forges.with(plainFile(), start + 9, 128, start + 10, 127));
            reads("the greatest float", 0, Forges.with(plainFile(), start + 7, 255,
                    start + 8, 255, start + 9, 127, start + 10, 255));
        }
        faultAt("before the y of the next", 25, Forges.with(plainFile(), 29, 124, 36, 9));
        faultAt("before a byte that is left", 61, Forges.with(plainFile(), 65, 124, 72, 0));
    }

    @Says("BITS that are no numbers (FAULT at the y of the CHUNK);")
    static void packedBitsThatAreNoNumbers() {
        for (int scheme = 1; scheme <= 3; scheme++) {
            // All eight upper bytes are 124 or, by scheme 2, the first one and all differences.
            faultAt("halves by scheme " + scheme, 14,
                    eightHalves(scheme, 255, 0, 6, 128, 255, 252, 6, 128));
        }
        for (int scheme = 1; scheme <= 3; scheme += 2) {
            RasterForge f = eightHalves(scheme, 255, 0, 6, 128, 255, 251, 6, 128);
            reads("123 by scheme " + scheme, scheme, f);
            CHECKS.due("its bits", 31488, () -> f.bits(0, 7, 0));
        }
        // 123 and seven differences of 0, then one of 1 among them.
        RasterForge sums = eightHalves(2, 255, 0, 6, 128, 254, 251, 5, 5, 128);
        reads("123 by scheme 2", 2, sums);
        CHECKS.due("123 by scheme 2: its bits", 31488, () -> sums.bits(0, 7, 0));
        faultAt("a sum of 124", 14,
                eightHalves(2, 255, 0, 6, 128, 253, 251, 6, 127, 4, 128));
        RasterForge cut = Forges.picture(1, 1, 97, 1, 1);
        cut.encode(2);
        faultAt("a cut float", 14, Forges.with(cut, 18, 128, 19, 127));
        reads("the greatest cut float", 2, Forges.with(cut, 17, 255, 18, 127));
        RasterForge waves = Forges.picture(1, 1, 97, 0, 1);
        waves.encode(3);
        faultAt("a half by scheme 3", 14, Forges.with(waves, 18, 124));
    }

    /** One line of eight halves with these packed bytes. */
    private static RasterForge eightHalves(int scheme, int... bytes) {
        RasterForge f = Forges.picture(8, 1, 97, 0, 1);
        f.encode(scheme);
        f.cut(17);
        f.patch(15, bytes.length);
        return Forges.adding(f, bytes);
    }

    @Says("and no BYTE left at the end.")
    static void noByteLeft() {
        for (int b = 0; b <= 255; b += 51) {
            faultAt("plain: " + b, 72, Forges.adding(plainFile(), b));
            faultAt("packed: " + b, 21, Forges.adding(packedFile(), b));
        }
        faultAt("three left", 72, Forges.adding(plainFile(), 118, 47, 49));
        for (int scheme = 0; scheme <= 3; scheme++) {
            RasterForge f = bigFile(scheme);
            int length = f.file(-1);
            faultAt("scheme " + scheme, length, Forges.adding(f, 0));
            f.cut(length);
            reads("scheme " + scheme + " without it", scheme, f);
        }
    }
}
