/** The edges in the document's sentence on the picture, its channels and its samples. */
public final class PictureEdgesTest {
    private static final Checks CHECKS = new Checks("edges of the picture");
    private static final int[] FAR = {Integer.MIN_VALUE, -256, 256, 65536, Integer.MAX_VALUE};

    public static void main(String[] args) {
        Edges.run(PictureEdgesTest.class, CHECKS);
    }

    @Says("A PICTURE has a width and height (1 to 8)")
    static void sides() {
        for (int width = -1; width <= 10; width++) {
            for (int height = -1; height <= 10; height++) {
                begins(width, height);
            }
        }
        for (int far : FAR) {
            begins(far, 1);
            begins(8, far);
        }
    }

    private static void begins(int width, int height) {
        RasterForge f = new RasterForge();
        String what = "begin(" + width + ", " + height + ")";
        boolean fits = width >= 1 && width <= 8 && height >= 1 && height <= 8;
        if (fits) {
            CHECKS.due(what, width * height, () -> f.begin(width, height));
        } else {
            CHECKS.dueIllegal(what, () -> f.begin(width, height));
        }
        CHECKS.due(what + ": width", fits ? width : 1, () -> f.count(0));
        CHECKS.due(what + ": height", fits ? height : 1, () -> f.count(1));
    }

    @Says("and CHANNELS, 1 to 3")
    static void noChannelOrFour() {
        RasterForge f = Forges.picture(1, 1);
        CHECKS.dueState("a file of none", () -> f.encode(0));
        for (int n = 1; n <= 3; n++) {
            int many = n;
            CHECKS.due("channel " + n, n, () -> f.channel(96 + many, 0, 1));
            CHECKS.due("a file of " + n, 9 + 3 * n + 2 + 3 + 2 * n, () -> f.encode(0));
            CHECKS.due("how many in it", n, () -> f.file(8));
        }
        CHECKS.dueState("a fourth", () -> f.channel(100, 0, 1));
        CHECKS.due("three stay", 3, () -> f.count(2));
    }

    @Says("each with a LETTER (97 to 122,")
    static void letters() {
        for (int letter = 90; letter <= 130; letter++) {
            takesLetter(Forges.picture(1, 1), letter, letter >= 97 && letter <= 122, 1);
        }
        for (int far : FAR) {
            takesLetter(Forges.picture(1, 1), far, false, 1);
        }
        takesLetter(Forges.picture(1, 1), 97 + 256, false, 1);
    }

    @Says("each greater than that of the one before)")
    static void risingLetters() {
        for (int letter = 95; letter <= 125; letter++) {
            boolean second = letter > 110 && letter <= 122;
            boolean third = letter > 120 && letter <= 122;
            takesLetter(Forges.picture(1, 1, 110, 0, 1), letter, second, 2);
            takesLetter(Forges.picture(1, 1, 97, 2, 1, 120, 0, 1), letter, third, 3);
            takesLetter(Forges.picture(1, 1, 122, 0, 1), letter, false, 2);
        }
        RasterForge f = Forges.picture(1, 1, 122, 0, 1);
        f.begin(1, 1);
        takesLetter(f, 97, true, 1);
    }

    /** Whether the picture takes the letter as its channel n, and if not that it stays. */
    private static void takesLetter(RasterForge f, int letter, boolean fits, int n) {
        if (fits) {
            CHECKS.due("letter " + letter, n, () -> f.channel(letter, 0, 1));
            CHECKS.due("letter " + letter + " told", letter, () -> f.count(9 + n));
        } else {
            CHECKS.dueIllegal("letter " + letter, () -> f.channel(letter, 0, 1));
            CHECKS.due("letter " + letter + " did not come", n - 1, () -> f.count(2));
        }
    }

    @Says("a TYPE (0 HALF, 1 FLOAT, 2 WHOLE)")
    static void types() {
        double[] told = {65504.0, 65536.5, 65535.0};
        for (int t = 0; t <= 2; t++) {
            int type = t;
            RasterForge f = Forges.picture(1, 1);
            CHECKS.due("type " + t, 1, () -> f.channel(97, type, 1));
            CHECKS.due("type " + t + " told", t, () -> f.count(20));
            CHECKS.due("type " + t + " by a sample", told[t], () -> f.set(0, 0, 0, 65536.5));
        }
        int[] wrong = {-2, -1, 3, 4, Integer.MIN_VALUE, Integer.MAX_VALUE};
        for (int w : wrong) {
            RasterForge f = Forges.picture(1, 1);
            CHECKS.dueIllegal("type " + w, () -> f.channel(97, w, 1));
            CHECKS.due("type " + w + " did not come", 0, () -> f.count(2));
        }
    }

    @Says("a STEP (1, 2)")
    static void steps() {
        for (int s = 1; s <= 2; s++) {
            int step = s;
            RasterForge f = Forges.picture(2, 2);
            CHECKS.due("step " + s, 1, () -> f.channel(97, 0, step));
            CHECKS.due("step " + s + " told", s, () -> f.count(30));
        }
        int[] wrong = {-2, -1, 0, 3, 4, 8, Integer.MIN_VALUE, Integer.MAX_VALUE};
        for (int w : wrong) {
            RasterForge f = Forges.picture(2, 2);
            CHECKS.dueIllegal("step " + w, () -> f.channel(97, 0, w));
            CHECKS.due("step " + w + " did not come", 0, () -> f.count(2));
        }
    }

    @Says("it has SAMPLES at x, y that are both multiples of its STEP")
    static void placesOfSamples() {
        for (int step = 1; step <= 2; step++) {
            for (int width = 1; width <= 8; width++) {
                for (int height = 1; height <= 8; height++) {
                    samplesOf(width, height, step);
                }
            }
        }
    }

    private static void samplesOf(int width, int height, int step) {
        RasterForge f = Forges.picture(width, height, 97, 2, step);
        int many = 0;
        for (int y = -2; y <= height + 1; y++) {
            for (int x = -2; x <= width + 1; x++) {
                int px = x;
                int py = y;
                String what = width + " by " + height + ", step " + step + ": " + x + ", " + y;
                boolean inside = x >= 0 && x < width && y >= 0 && y < height;
                if (inside && x % step == 0 && y % step == 0) {
                    many++;
                    double number = many;
                    CHECKS.due(what, number, () -> f.set(0, px, py, number));
                } else {
                    CHECKS.dueIndex(what, () -> f.set(0, px, py, 1));
                }
            }
        }
        int all = many;
        CHECKS.due("how many", all, () -> f.count(40));
        CHECKS.due("the last one counts all", (double) all, () -> f.spread(0, 0));
    }

    @Says("0 at first.")
    static void zeroAtFirst() {
        RasterForge f = Forges.picture(2, 2, 97, 0, 1, 98, 1, 1, 99, 2, 1);
        CHECKS.due("a new picture", "0 0 0 0", () -> Forges.bitsOf(f, 2));
        for (int c = 0; c < 3; c++) {
            for (int k = 0; k < 4; k++) {
                f.set(c, k % 2, k / 2, 9);
            }
        }
        f.encode(3);
        f.decode();
        f.begin(2, 2);
        f.channel(97, 1, 1);
        CHECKS.due("behind a picture that was read", "0 0 0 0", () -> Forges.bitsOf(f, 0));
        f.channel(98, 2, 1);
        CHECKS.due("a second channel", "0 0 0 0", () -> Forges.bitsOf(f, 1));
        f.set(1, 1, 1, 5);
        f.channel(99, 0, 1);
        CHECKS.due("a third channel", "0 0 0 0", () -> Forges.bitsOf(f, 2));
        CHECKS.due("the second stays", "0 0 0 5", () -> Forges.bitsOf(f, 1));
        f.begin(1, 1);
        f.begin(2, 2);
        f.channel(97, 2, 1);
        f.channel(98, 2, 1);
        CHECKS.due("behind a smaller picture", "0 0 0 0", () -> Forges.bitsOf(f, 1));
    }

    @Says("0 at first.")
    static void nothingIsLeftOfAReading() {
        RasterForge f = Forges.picture(4, 4, 97, 2, 1);
        for (int k = 0; k < 16; k++) {
            f.set(0, k % 4, k / 4, 40000);
        }
        f.encode(3);
        f.decode();
        for (int k = 0; k < 16; k++) {
            f.set(0, k % 4, k / 4, 1);
        }
        f.encode(3);
        // The first of these goes into what an earlier reading filled.
        f.decode();
        f.decode();
        CHECKS.due("no bits of before", "1 1 1 1 1 1 1 1 1 1 1 1 1 1 1 1",
                () -> Forges.bitsOf(f, 0));
    }
}
