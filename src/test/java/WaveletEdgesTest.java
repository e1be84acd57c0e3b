import java.util.StringJoiner;

/** The edges in the document's sentences on scheme 3 and the wavelet. */
public final class WaveletEdgesTest {
    private static final Checks CHECKS = new Checks("edges of the wavelet");

    public static void main(String[] args) {
        Edges.run(WaveletEdgesTest.class, CHECKS);
    }

    /** The numbers of two bytes of a packed chunk, as they were before it was packed. */
    private static int[] numbersOf(RasterForge f, int start, int many) {
        int[] sorted = new int[2 * many];
        int made = 0;
        int place = start + 3;
        int end = place + f.file(start + 1) + 256 * f.file(start + 2);
        while (place < end) {
            int head = f.file(place);
            int makes = head < 128 ? head + 1 : 256 - head;
            for (int k = 0; k < makes; k++) {
                int b = f.file(place + 1 + (head < 128 ? 0 : k));
                sorted[made] = made == 0 ? b : b + sorted[made - 1] - 128 & 255;
                made++;
            }
            place += head < 128 ? 2 : 1 + makes;
        }
        int[] numbers = new int[many];
        for (int k = 0; k < many; k++) {
            numbers[k] = sorted[k] + 256 * sorted[many + k];
        }
        return numbers;
    }

    /** Some of the numbers with a divisor taken out, as a text. */
    private static String part(int[] numbers, int start, int many, int divisor) {
        StringJoiner text = new StringJoiner(" ");
        for (int k = start; k < start + many; k++) {
            text.add(String.valueOf(numbers[k] / divisor));
        }
        return text.toString();
    }

    /**
     * The table of zeros of a size, in units of 16384. With three channels of them the packed
     * bytes are fewer than the raw ones, so that the table stands in the file.
     */
    private static void zerosBecome(int nx, int ny, String table) {
        for (int step = 1; step <= 2 && nx * step <= 8 && ny * step <= 4; step++) {
            RasterForge f = Forges.picture(nx * step, ny * step,
                    97, 2, step, 98, 2, step, 99, 2, step);
            CHECKS.due(nx + " by " + ny, true, () -> f.encode(3) < 23 + 6 * nx * ny);
            int[] numbers = numbersOf(f, 20, 3 * nx * ny);
            for (int c = 0; c < 3; c++) {
                int start = c * nx * ny;
                CHECKS.due(nx + " by " + ny + ", channel " + c, table.replace(" /", ""),
                        () -> part(numbers, start, nx * ny, 16384));
            }
            CHECKS.due(nx + " by " + ny + ": read", 3, f::decode);
            CHECKS.due(nx + " by " + ny + ": zeros", 0.0, () -> f.spread(2, 0));
        }
    }

    @Says("for p = 1, 2, 4, .. as long as 2 p is not above the lesser of nx and ny:")
    static void lesserOfBothSides() {
        zerosBecome(4, 1, "0 0 0 0");
        zerosBecome(8, 1, "0 0 0 0 0 0 0 0");
        zerosBecome(1, 4, "0 / 0 / 0 / 0");
        zerosBecome(1, 2, "0 / 0");
        zerosBecome(2, 2, "2 3 / 2 2");
        zerosBecome(4, 2, "2 3 2 3 / 2 2 2 2");
        zerosBecome(2, 4, "2 3 / 2 2 / 2 3 / 2 2");
        zerosBecome(4, 3, "2 3 2 3 / 2 2 2 2 / 0 0 0 0");
        zerosBecome(3, 4, "2 3 0 / 2 2 0 / 2 3 0 / 2 2 0");
        zerosBecome(8, 3, "2 3 2 3 2 3 2 3 / 2 2 2 2 2 2 2 2 / 0 0 0 0 0 0 0 0");
        zerosBecome(4, 4, "0 3 3 3 / 2 2 2 2 / 2 3 2 3 / 2 2 2 2");
        zerosBecome(8, 4, "0 3 3 3 0 3 3 3 / 2 2 2 2 2 2 2 2 / 2 3 2 3 2 3 2 3 /"
                + " 2 2 2 2 2 2 2 2");
    }

    @Says("for y = 0, 2 p, .. with y + p below ny,")
    static void oddLines() {
        zerosBecome(2, 3, "2 3 / 2 2 / 0 0");
        zerosBecome(3, 3, "2 3 0 / 2 2 0 / 0 0 0");
        zerosBecome(5, 3, "2 3 2 3 0 / 2 2 2 2 0 / 0 0 0 0 0");
    }

    @Says("x = 0, 2 p, .. with x + p below nx:")
    static void oddColumns() {
        zerosBecome(3, 2, "2 3 0 / 2 2 0");
        zerosBecome(5, 2, "2 3 2 3 0 / 2 2 2 2 0");
        zerosBecome(7, 2, "2 3 2 3 2 3 0 / 2 2 2 2 2 2 0");
        zerosBecome(5, 4, "0 3 3 3 0 / 2 2 2 2 0 / 2 3 2 3 0 / 2 2 2 2 0");
        zerosBecome(6, 4, "0 3 3 3 2 3 / 2 2 2 2 2 2 / 2 3 2 3 2 3 / 2 2 2 2 2 2");
        zerosBecome(7, 4, "0 3 3 3 1 3 1 / 2 2 2 2 2 2 0 / 2 3 2 3 2 3 2 / 2 2 2 2 2 2 0");
    }

    /** A square a, b, c, d beside two channels of zeros, and what it becomes. */
    private static void squareBecomes(int[] square, String due) {
        RasterForge f = Forges.picture(2, 2, 97, 2, 1, 98, 2, 1, 99, 2, 1);
        for (int k = 0; k < 4; k++) {
            f.set(0, k % 2, k / 2, square[k]);
        }
        String bits = Forges.bitsOf(f, 0);
        CHECKS.due(bits + ": packed", true, () -> f.encode(3) < 23 + 24);
        CHECKS.due(bits, due, () -> part(numbersOf(f, 20, 12), 0, 4, 1));
        f.begin(1, 1);
        CHECKS.due(bits + ": read", 3, f::decode);
        CHECKS.due(bits + ": again", bits, () -> Forges.bitsOf(f, 0));
    }

    private static int[] square(int... square) {
        return square;
    }

    @Says("a at x, y, b at x + p, y, c at x, y + p, d at both + p: (a, b) becomes (i, j), (c, d)"
            + " (k, l), then (i, k) (a', c'), (j, l) (b', d'), written to the places of a, b, c,"
            + " d.")
    static void placesOfTheFour() {
        squareBecomes(square(1, 0, 0, 0), "32768 49152 32768 32769");
        squareBecomes(square(0, 1, 0, 0), "32768 49151 32768 32767");
        squareBecomes(square(0, 0, 1, 0), "32768 49152 32768 32767");
        squareBecomes(square(0, 0, 0, 1), "32768 49151 32768 32769");
        squareBecomes(square(40000, 3, 65535, 12345), "29470 30209 13829 19575");
    }

    @Says("(u, v) becomes (m, w): o = u + 32768 mod 65536;")
    static void upperNumbersWrapAround() {
        squareBecomes(square(32767, 0, 0, 0), "40959 65535 49151 65535");
        squareBecomes(square(32768, 0, 0, 0), "24576 32768 16384 0");
        squareBecomes(square(65535, 65535, 65535, 65535), "32767 49152 32768 32768");
    }

    @Says("m = (o + v) / 2 (cut),")
    static void oddSumsAreCut() {
        // 32768 + 1 and 0 + 32767 are odd.
        squareBecomes(square(0, 1, 0, 1), "32768 49151 32768 32768");
        squareBecomes(square(1, 2, 3, 4), "32770 49151 32766 32768");
    }

    @Says("w = o - v, and if that is below 0 m becomes m + 32768 mod 65536;")
    static void differencesBelow0() {
        // v 32767 and 32768 leave w at 1 and 0, 32769 makes it -1.
        squareBecomes(square(0, 32767, 0, 0), "40959 32768 49151 1");
        squareBecomes(square(0, 32768, 0, 0), "40960 32768 49152 0");
        squareBecomes(square(0, 32769, 0, 0), "24576 65535 16384 65535");
    }

    @Says("w mod 65536.")
    static void lowestDifference() {
        // o is 0 and v 65535, then 1; o is 65535 and v 65535.
        squareBecomes(square(32768, 65535, 0, 0), "24575 32768 16383 1");
        squareBecomes(square(32768, 1, 0, 0), "40960 65535 49152 65535");
        squareBecomes(square(32767, 65535, 0, 0), "24575 32768 16383 0");
    }

    @Says("each CHANNEL's SAMPLES of the CHUNK as a table, ny lines of nx")
    static void linesOfTheSecondChunk() {
        // Lines 4 to 6: three lines with step 1, lines 4 and 6 with step 2.
        RasterForge f = Forges.picture(4, 7, 97, 2, 1, 98, 2, 2, 99, 2, 1);
        f.encode(3);
        int second = f.file(20) + 256 * f.file(21);
        int[] numbers = numbersOf(f, second, 12 + 4 + 12);
        CHECKS.due("step 1", "2 3 2 3 2 2 2 2 0 0 0 0", () -> part(numbers, 0, 12, 16384));
        CHECKS.due("step 2", "2 3 2 2", () -> part(numbers, 12, 4, 16384));
        CHECKS.due("step 1 again", "2 3 2 3 2 2 2 2 0 0 0 0", () -> part(numbers, 16, 12, 16384));
        CHECKS.due("read", 3, f::decode);
        CHECKS.due("zeros", 0.0, () -> f.spread(1, 0));
    }

    @Says("(FLOAT: one of the lower 16 bits, then one of the upper 16)")
    static void lowerBitsFirst() {
        RasterForge f = Forges.picture(8, 1, 97, 1, 1);
        for (int x = 0; x < 8; x++) {
            f.set(0, x, 0, Float.intBitsToFloat(0x3F800007));
        }
        // 7 eight times, then 16256, which is 128 and 63.
        f.encode(3);
        CHECKS.due("fewer than 32", true, () -> f.file(15) < 32);
        CHECKS.due("lower, then upper",
                "7 7 7 7 7 7 7 7 16256 16256 16256 16256 16256 16256 16256 16256",
                () -> part(numbersOf(f, 14, 16), 0, 16, 1));
        CHECKS.due("read", 3, f::decode);
        CHECKS.due("the last", 0x3F800007, () -> f.bits(0, 7, 0));
        f.set(0, 7, 0, -1);
        f.encode(3);
        CHECKS.due("upper bits of one below 0",
                "7 7 7 7 7 7 7 0 16256 16256 16256 16256 16256 16256 16256 49024",
                () -> part(numbersOf(f, 14, 16), 0, 16, 1));
        f.decode();
        CHECKS.due("one below 0: read", -1.0, () -> f.get(0, 7, 0));
        CHECKS.due("and the one before it", 0x3F800007, () -> f.bits(0, 6, 0));
    }

    @Says("then all are written: CHANNEL by CHANNEL (table by table), line by line,"
            + " in two BYTES each, and PACKED.")
    static void tableByTable() {
        // One column: no wavelet, so that the tables hold the samples.
        RasterForge f = Forges.picture(1, 4, 97, 2, 1, 98, 1, 2, 99, 0, 1);
        for (int y = 0; y < 4; y++) {
            f.set(0, 0, y, 1 + y);
            f.set(2, 0, y, 1);
        }
        f.set(1, 0, 0, Float.intBitsToFloat(0x00050006));
        f.set(1, 0, 2, Float.intBitsToFloat(0x00050006));
        f.encode(3);
        CHECKS.due("fewer than 24", true, () -> f.file(21) < 24);
        CHECKS.due("tables", "1 2 3 4 6 6 5 5 15360 15360 15360 15360",
                () -> part(numbersOf(f, 20, 12), 0, 12, 1));
        CHECKS.due("read", 3, f::decode);
        CHECKS.due("wholes", "1 2 3 4", () -> Forges.bitsOf(f, 0));
        CHECKS.due("floats", 0x00050006 + " " + 0x00050006, () -> Forges.bitsOf(f, 1));
        CHECKS.due("halves", "15360 15360 15360 15360", () -> Forges.bitsOf(f, 2));
    }
}
