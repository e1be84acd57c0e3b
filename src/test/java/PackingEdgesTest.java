import java.util.Arrays;

/** The edges in the document's sentences on packed bytes, and on when they are written. */
public final class PackingEdgesTest {
    private static final Checks CHECKS = new Checks("edges of packing");
    /** The bytes of four lines of eight wholes in three channels. */
    private static final int ALL = 192;

    public static void main(String[] args) {
        Edges.run(PackingEdgesTest.class, CHECKS);
    }

    /** Encodes one line of wholes: what stands in the file from its only chunk on. */
    private static String chunkOf(int scheme, int... wholes) {
        RasterForge f = Forges.picture(wholes.length, 1, 97, 2, 1);
        for (int x = 0; x < wholes.length; x++) {
            f.set(0, x, 0, wholes[x]);
        }
        f.encode(scheme);
        return Forges.bytesFrom(f, 14);
    }

    /**
     * A picture whose 192 bytes by scheme 2 are these just before runs are made of them: goes
     * back through the document's steps, from the last to the first.
     */
    private static RasterForge beforeRuns(int... differences) {
        RasterForge f = Forges.picture(8, 4, 97, 2, 1, 98, 2, 1, 99, 2, 1);
        int[] sorted = new int[ALL];
        for (int k = 0; k < ALL; k++) {
            sorted[k] = k == 0 ? differences[0] : differences[k] + sorted[k - 1] - 128 & 255;
        }
        int whole = 0;
        for (int k = 0; k < ALL / 2; k++) {
            int x = k % 8;
            int number = sorted[k] + 256 * sorted[ALL / 2 + k];
            whole = x == 0 ? number : whole + number & 65535;
            f.set(k / 8 % 3, x, k / 24, whole);
        }
        return f;
    }

    /** Looks at the runs that are made of 192 bytes, and that they are read again. */
    private static void makesRuns(String what, int[] differences, int... runs) {
        RasterForge f = beforeRuns(differences);
        String due = "0 " + runs.length + " 0 " + joined(runs);
        CHECKS.due(what + ": length", 23 + runs.length, () -> f.encode(2));
        CHECKS.due(what + ": runs", due, () -> Forges.bytesFrom(f, 20));
        RasterForge g = beforeRuns(differences);
        g.encode(2);
        String bits = Forges.bitsOf(g, 2);
        g.begin(1, 1);
        CHECKS.due(what + ": read", 2, g::decode);
        CHECKS.due(what + ": the last channel", bits, () -> Forges.bitsOf(g, 2));
    }

    private static String joined(int... bytes) {
        return Arrays.toString(bytes).replaceAll("[\\[\\],]", "");
    }

    /** Some bytes, and then one byte as often as it takes to make 192. */
    private static int[] filled(int[] first, int rest) {
        int[] all = Arrays.copyOf(first, ALL);
        Arrays.fill(all, first.length, ALL, rest);
        return all;
    }

    private static int[] alike(int many, int b) {
        int[] bytes = new int[many];
        Arrays.fill(bytes, b);
        return bytes;
    }

    /** 1, 2, 1, 2, ..: no two beside one another are alike. */
    private static int[] unlike(int many) {
        int[] bytes = new int[many];
        for (int k = 0; k < many; k++) {
            bytes[k] = 1 + k % 2;
        }
        return bytes;
    }

    private static int[] together(int[]... parts) {
        int[] all = new int[0];
        for (int[] part : parts) {
            int length = all.length;
            all = Arrays.copyOf(all, length + part.length);
            System.arraycopy(part, 0, all, length, part.length);
        }
        return all;
    }

    private static int[] bytes(int... bytes) {
        return bytes;
    }

    @Says("PACKED are BYTES: first those at even places, then those at odd ones;")
    static void evenPlacesFirst() {
        // The even places have 10, 20, .. 80, the odd ones nothing.
        CHECKS.due("an even number", "0 8 0 255 10 6 138 255 48 6 128",
                () -> chunkOf(1, 10, 20, 30, 40, 50, 60, 70, 80));
        CHECKS.due("the odd places", "0 6 0 255 0 6 128 7 138",
                () -> chunkOf(1, 10 * 256, 20 * 256, 30 * 256, 40 * 256, 50 * 256, 60 * 256,
                        70 * 256, 80 * 256));
        // 21 bytes: 0 128 63 and 18 zeros; eleven of them at even places.
        RasterForge f = Forges.picture(7, 1, 97, 1, 1);
        for (int x = 0; x < 7; x++) {
            f.set(0, x, 0, 1);
        }
        f.encode(2);
        CHECKS.due("an odd number", "0 11 0 253 0 191 65 7 128 254 0 0 7 128",
                () -> Forges.bytesFrom(f, 14));
        CHECKS.due("an odd number: read", 2, f::decode);
        CHECKS.due("an odd number: the last", 1.0, () -> f.get(0, 6, 0));
    }

    @Says("then each but the first becomes itself less the one before (as that was), and 128, "
            + "mod 256;")
    static void differencesWrapAround() {
        // 255 - 0 + 128 and 128 - 0 + 128 are above 255, 0 - 255 + 128 is below 0.
        CHECKS.due("up and down", "0 8 0 251 0 127 129 0 0 10 128",
                () -> chunkOf(1, 0, 255, 0, 128, 0, 0, 0, 0));
        CHECKS.due("the first stays", "0 8 0 255 255 6 128 255 129 6 128",
                () -> chunkOf(1, 255, 255, 255, 255, 255, 255, 255, 255));
        CHECKS.due("127 more is 255", "0 9 0 254 0 255 5 128 255 1 6 128",
                () -> chunkOf(1, 0, 127, 127, 127, 127, 127, 127, 127));
        CHECKS.due("128 less is 0", "0 5 0 254 128 0 13 128",
                () -> chunkOf(1, 128, 0, 0, 0, 0, 0, 0, 0));
    }

    @Says("then RUNS, from the left: where 3 or more are alike,")
    static void threeAlike() {
        makesRuns("two at the start", filled(bytes(5, 5), 9), 254, 5, 5, 127, 9, 61, 9);
        makesRuns("three at the start", filled(bytes(5, 5, 5), 9), 2, 5, 127, 9, 60, 9);
        makesRuns("two inside", filled(bytes(1, 5, 5, 2), 9), 252, 1, 5, 5, 2, 127, 9, 59, 9);
        makesRuns("two and two inside", filled(bytes(1, 5, 5, 6, 6, 2), 9),
                250, 1, 5, 5, 6, 6, 2, 127, 9, 57, 9);
        makesRuns("three inside", filled(bytes(1, 5, 5, 5, 2), 9),
                255, 1, 2, 5, 255, 2, 127, 9, 58, 9);
        makesRuns("four inside", filled(bytes(1, 5, 5, 5, 5, 2), 9),
                255, 1, 3, 5, 255, 2, 127, 9, 57, 9);
        makesRuns("three and three", filled(bytes(5, 5, 5, 6, 6, 6), 9), 2, 5, 2, 6, 127, 9, 57, 9);
        makesRuns("two at the end", together(alike(190, 9), bytes(5, 5)),
                127, 9, 61, 9, 254, 5, 5);
        makesRuns("three at the end", together(alike(189, 9), bytes(5, 5, 5)),
                127, 9, 60, 9, 2, 5);
        makesRuns("one at the end", together(alike(191, 9), bytes(5)), 127, 9, 62, 9, 255, 5);
    }

    @Says("up to 128 of them: how many less 1, and that BYTE;")
    static void upTo128Alike() {
        makesRuns("127", filled(alike(127, 5), 9), 126, 5, 64, 9);
        makesRuns("128", filled(alike(128, 5), 9), 127, 5, 63, 9);
        makesRuns("129", filled(alike(129, 5), 9), 127, 5, 255, 5, 62, 9);
        makesRuns("130", filled(alike(130, 5), 9), 127, 5, 254, 5, 5, 61, 9);
        makesRuns("131", filled(alike(131, 5), 9), 127, 5, 2, 5, 60, 9);
        makesRuns("all", alike(192, 5), 127, 5, 63, 5);
    }

    /** 288 bytes of three channels of floats, cut: three runs and what is left of them. */
    @Says("up to 128 of them: how many less 1, and that BYTE;")
    static void twice128Alike() {
        RasterForge f = Forges.picture(8, 4, 97, 1, 1, 98, 1, 1, 99, 1, 1);
        f.encode(2);
        CHECKS.due("287 alike", "0 8 0 255 0 127 128 127 128 30 128",
                () -> Forges.bytesFrom(f, 20));
        f.decode();
        CHECKS.due("287 alike: read", 0.0, () -> f.spread(2, 0));
    }

    @Says("else BYTES up to where 3 are alike,")
    static void unlikeUpToThreeAlike() {
        makesRuns("one", filled(unlike(1), 9), 255, 1, 127, 9, 62, 9);
        makesRuns("two", filled(unlike(2), 9), 254, 1, 2, 127, 9, 61, 9);
        makesRuns("then two, then three alike", filled(bytes(1, 5, 5, 6, 6, 6, 2), 9),
                253, 1, 5, 5, 2, 6, 255, 2, 127, 9, 56, 9);
        makesRuns("126", filled(unlike(126), 9), together(bytes(130), unlike(126), bytes(65, 9)));
    }

    @Says("or 127 of them: 256 less how many, and these.")
    static void upTo127Unlike() {
        makesRuns("127", filled(unlike(127), 9), together(bytes(129), unlike(127), bytes(64, 9)));
        makesRuns("128", filled(unlike(128), 9),
                together(bytes(129), unlike(127), bytes(255, 2, 63, 9)));
        makesRuns("129", filled(unlike(129), 9),
                together(bytes(129), unlike(127), bytes(254, 2, 1, 62, 9)));
        makesRuns("the 127th and 128th are alike", filled(together(unlike(126), bytes(5, 5)), 9),
                together(bytes(129), unlike(126), bytes(5, 255, 5, 63, 9)));
        makesRuns("from the 127th on three are", filled(together(unlike(126), bytes(5, 5, 5)), 9),
                together(bytes(130), unlike(126), bytes(2, 5, 62, 9)));
        makesRuns("the 126th to the 128th", filled(together(unlike(125), bytes(5, 5, 5)), 9),
                together(bytes(131), unlike(125), bytes(2, 5, 63, 9)));
    }

    @Says("With others what is made of them, if that is fewer,")
    static void fewerByOne() {
        // Of six bytes: 0 129, then 128 four times.
        for (int s = 1; s <= 3; s += 2) {
            int scheme = s;
            CHECKS.due("scheme " + s, "0 5 0 254 0 129 3 128",
                    () -> chunkOf(scheme, 256, 257, 257));
        }
        // Differences 256, 257, 257 by scheme 2.
        CHECKS.due("scheme 2", "0 5 0 254 0 129 3 128", () -> chunkOf(2, 256, 513, 770));
    }

    @Says("else the RAW BYTES themselves")
    static void asManyOrMore() {
        // Of six bytes: 0 130 127, then 128 three times, which is six bytes again.
        for (int s = 1; s <= 3; s += 2) {
            int scheme = s;
            CHECKS.due("as many by scheme " + s, "0 6 0 0 1 2 1 1 1",
                    () -> chunkOf(scheme, 256, 258, 257));
            CHECKS.due("more by scheme " + s, "0 6 0 1 9 7 2 5 8",
                    () -> chunkOf(scheme, 9 * 256 + 1, 2 * 256 + 7, 8 * 256 + 5));
            CHECKS.due("one sample by scheme " + s, "0 2 0 7 7", () -> chunkOf(scheme, 1799));
        }
        CHECKS.due("as many by scheme 2", "0 6 0 0 1 2 2 3 3", () -> chunkOf(2, 256, 514, 771));
        CHECKS.due("more by scheme 2", "0 6 0 1 9 7 2 5 8",
                () -> chunkOf(2, 9 * 256 + 1, 2 * 256 + 7, 8 * 256 + 5));
    }

    @Says("(of SCHEME 2 the CUT ones, as said below; so that a size as great means these)")
    static void cutOnesThemselves() {
        // Two floats with 1 0 64 cut: 1 191 64 and three times 128, which is six bytes again.
        double v = 2 * (1 + 0x1p-15);
        RasterForge f = Forges.picture(2, 1, 97, 1, 1);
        f.set(0, 0, 0, v + 0x1p-22);
        f.set(0, 1, 0, v - 0x1p-22);
        CHECKS.due("as many: length", 14 + 3 + 6, () -> f.encode(2));
        CHECKS.due("as many", "0 6 0 1 0 64 1 0 64", () -> Forges.bytesFrom(f, 14));
        CHECKS.due("as many: read", 2, f::decode);
        CHECKS.due("as many: the first", v, () -> f.get(0, 0, 0));
        CHECKS.due("as many: the second", v, () -> f.get(0, 1, 0));
        // Two floats with 1 0 0 cut: 1 127 and four times 128, which is five bytes.
        RasterForge g = Forges.picture(2, 1, 97, 1, 1);
        g.set(0, 0, 0, 0x1p-141);
        g.set(0, 1, 0, 0x1p-141);
        CHECKS.due("fewer: length", 14 + 3 + 5, () -> g.encode(2));
        CHECKS.due("fewer", "0 5 0 254 1 127 3 128", () -> Forges.bytesFrom(g, 14));
        CHECKS.due("fewer: read", 2, g::decode);
        CHECKS.due("fewer: the second", 0x1p-141, () -> g.get(0, 1, 0));
    }

    @Says("SCHEME 1: the RAW BYTES PACKED.")
    static void floatsPackedWhole() {
        RasterForge f = Forges.picture(2, 1, 97, 1, 1);
        f.set(0, 0, 0, 0x1p-149);
        f.set(0, 1, 0, 257 * 0x1p-149);
        // 1 0 1 0 at even places, 0 0 1 0 at odd ones: nowhere three differences are alike.
        f.encode(1);
        CHECKS.due("more", "0 8 0 1 0 0 0 1 1 0 0", () -> Forges.bytesFrom(f, 14));
        f.set(0, 1, 0, 0x1p-149);
        // 1 0 1 0 and four zeros.
        f.encode(1);
        CHECKS.due("fewer by one", "0 7 0 252 1 127 129 127 3 128", () -> Forges.bytesFrom(f, 14));
        f.set(0, 1, 0, 0);
        // 1 127 and six times 128.
        f.encode(1);
        CHECKS.due("fewer", "0 5 0 254 1 127 5 128", () -> Forges.bytesFrom(f, 14));
        CHECKS.due("fewer: read", 1, f::decode);
        CHECKS.due("fewer: the first", 1, () -> f.bits(0, 0, 0));
    }
}
