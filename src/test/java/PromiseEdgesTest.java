/** The edges in the sentences of promises 1 to 14. */
public final class PromiseEdgesTest {
    private static final Checks CHECKS = new Checks("edges of the promises");
    private static final double[] NO_VALUES = {Double.NaN, -Double.NaN,
        Double.longBitsToDouble(0x7FF0000000000001L), Double.longBitsToDouble(-1L),
        Math.nextUp(1e30), 1.1e30, 1e31, Double.MAX_VALUE, Double.POSITIVE_INFINITY,
        Math.nextDown(-1e30), -1.1e30, -1e31, -Double.MAX_VALUE, Double.NEGATIVE_INFINITY};
    /** Places without a sample in a picture of 3 by 4 with channels of step 1 and 2. */
    private static final int[][] NOWHERE = {
        {-1, 0, 0}, {2, 0, 0}, {3, 0, 0}, {Integer.MIN_VALUE, 0, 0}, {Integer.MAX_VALUE, 0, 0},
        {0, -1, 0}, {0, 3, 0}, {0, 4, 0}, {0, 8, 0}, {0, Integer.MIN_VALUE, 0},
        {0, Integer.MAX_VALUE, 0}, {0, 0, -1}, {0, 0, 4}, {0, 0, 8}, {0, 2, Integer.MIN_VALUE},
        {0, 2, Integer.MAX_VALUE}, {0, -1, 1}, {0, 3, -1},
        {1, 1, 0}, {1, 0, 1}, {1, 1, 1}, {1, 2, 3}, {1, -2, 0}, {1, 0, -2}, {1, 4, 0}, {1, 0, 4},
    };

    public static void main(String[] args) {
        Edges.run(PromiseEdgesTest.class, CHECKS);
    }

    private static RasterForge threeByFour() {
        return Forges.picture(3, 4, 97, 2, 1, 98, 1, 2);
    }

    @Says("A PICTURE of 1 by 1 with a CHANNEL a, HALF, STEP 1; THE FILE is empty.")
    static void newObject() {
        RasterForge f = new RasterForge();
        CHECKS.due("where", -2, f::where);
        CHECKS.due("all else", "1 1 1 97 0 0 0 0 0 1 0 0 1 0 0 | 0 | ", () -> Forges.stateOf(f));
        CHECKS.due("no byte", 0, () -> f.file(-1));
        CHECKS.dueIndex("byte 0", () -> f.file(0));
        CHECKS.dueIndex("a second sample", () -> f.get(0, 1, 0));
        CHECKS.dueIndex("a second channel", () -> f.get(1, 0, 0));
        CHECKS.dueIllegal("a second letter a", () -> f.channel(97, 0, 1));
        CHECKS.due("a second channel b", 2, () -> f.channel(98, 0, 1));
    }

    @Says("Of two exceptions that hold the one that stands first behind throws is thrown.")
    static void twoExceptions() {
        RasterForge three = Forges.picture(1, 1, 97, 0, 1, 98, 0, 1, 99, 0, 1);
        CHECKS.dueState("channel: there are 3", () -> three.channel(100, 0, 1));
        CHECKS.dueIllegal("channel: letter, and there are 3", () -> three.channel(99, 0, 1));
        CHECKS.dueIllegal("channel: letter 123, and 3", () -> three.channel(123, 0, 1));
        CHECKS.dueIllegal("channel: type, and there are 3", () -> three.channel(100, 3, 1));
        CHECKS.dueIllegal("channel: step, and there are 3", () -> three.channel(100, 0, 0));
        CHECKS.dueIndex("set: no sample", () -> three.set(3, 0, 0, 1));
        for (double v : NO_VALUES) {
            CHECKS.dueIllegal("set: no sample, and " + v, () -> three.set(3, 0, 0, v));
            CHECKS.dueIllegal("spread: no channel, and " + v, () -> three.spread(3, v));
        }
        CHECKS.dueIndex("spread: no channel", () -> three.spread(3, 0));
        RasterForge none = Forges.picture(1, 1);
        CHECKS.dueState("encode: no channels", () -> none.encode(3));
        CHECKS.dueIllegal("encode: no channels, scheme 4", () -> none.encode(4));
        CHECKS.dueIllegal("encode: no channels, scheme -1", () -> none.encode(-1));
        CHECKS.dueIndex("patch: no such place", () -> none.patch(1, 255));
        CHECKS.dueIllegal("patch: no such place, and 256", () -> none.patch(1, 256));
        CHECKS.dueIllegal("patch: no such place, and -1", () -> none.patch(-1, -1));
    }

    /** What each call is told to throw for, on an object with a picture, a file and a fault. */
    private static Checks.Call[] refused(RasterForge f) {
        return new Checks.Call[] {
            () -> f.begin(0, 1), () -> f.begin(1, 9), () -> f.begin(9, 9),
            () -> f.channel(99, 0, 1), () -> f.channel(123, 0, 1), () -> f.channel(110, 3, 1),
            () -> f.channel(110, 0, 3), () -> f.set(0, 1, 1, Double.NaN),
            () -> f.set(0, 1, 1, 2e30), () -> f.set(1, 0, 0, -2e30), () -> f.set(1, 1, 1, 5),
            () -> f.set(0, 2, 0, 5), () -> f.set(2, 0, 0, 5), () -> f.set(-1, 0, 0, 5),
            () -> f.get(1, 1, 0), () -> f.get(0, 0, 2), () -> f.bits(1, 0, 1),
            () -> f.bits(0, -1, 0), () -> f.encode(-1), () -> f.encode(4),
            () -> f.file(-2), () -> f.file(32), () -> f.patch(33, 1), () -> f.patch(-1, 1),
            () -> f.patch(5, 256), () -> f.patch(32, -1), () -> f.cut(-1), () -> f.cut(33),
            () -> f.count(3), () -> f.count(-1), () -> f.count(43), () -> f.spread(2, 0),
            () -> f.spread(0, Double.NaN), () -> f.spread(-1, 1e31),
        };
    }

    /** 2 by 2 with a half and a float, 32 bytes of a file with a version that is unknown. */
    private static RasterForge withFault() {
        RasterForge f = Forges.picture(2, 2, 97, 0, 1, 99, 1, 2);
        f.set(0, 1, 1, 7);
        f.set(1, 0, 0, 0.1);
        f.encode(3);
        f.patch(4, 3);
        Checks.told(f::decode);
        f.set(0, 0, 1, 8);
        return f;
    }

    @Says("A call that throws changes nothing but where().")
    static void nothingChanges() {
        int calls = refused(withFault()).length;
        for (int k = 0; k < calls; k++) {
            RasterForge f = withFault();
            CHECKS.due("length", 32, () -> f.file(-1));
            String before = Forges.stateOf(f);
            Checks.Call call = refused(f)[k];
            CHECKS.due("call " + k + " throws", true,
                    () -> Checks.told(call).startsWith("throws I"));
            CHECKS.due("call " + k + ": what stays", before, () -> Forges.stateOf(f));
            CHECKS.due("call " + k + ": where, of the latest decode", 4, f::where);
        }
    }

    @Says("A call that throws changes nothing but where().")
    static void nothingChangesWithNoneOrThreeChannels() {
        RasterForge none = Forges.picture(2, 2);
        none.patch(0, 9);
        String before = Forges.stateOf(none);
        CHECKS.dueState("encode", () -> none.encode(2));
        CHECKS.dueIndex("spread", () -> none.spread(0, 0));
        CHECKS.dueIndex("set", () -> none.set(0, 0, 0, 0));
        CHECKS.due("none: what stays", before, () -> Forges.stateOf(none));
        RasterForge three = Forges.picture(1, 1, 97, 0, 1, 98, 1, 1, 99, 2, 1);
        three.set(2, 0, 0, 3);
        String all = Forges.stateOf(three);
        CHECKS.dueState("channel", () -> three.channel(122, 0, 1));
        CHECKS.due("three: what stays", all, () -> Forges.stateOf(three));
    }

    /** Each way in which decode throws, from the first byte to the one behind the last. */
    @Says("A call that throws changes nothing but where().")
    static void nothingChangesByDecode() {
        int[][] patches = {{0, 0}, {4, 1}, {5, 0}, {6, 9}, {7, 4}, {8, 0}, {9, 96}, {10, 3},
            {11, 3}, {12, 97}, {15, 0}, {17, 9}, {18, 200}, {21, 124}, {32, 0}};
        int[] offsets = {0, 4, 5, 6, 7, 8, 9, 10, 11, 12, 15, 17, 18, 17, 32};
        for (int k = 0; k < patches.length; k++) {
            RasterForge f = Forges.with(withFault(), 4, 2);
            f.patch(patches[k][0], patches[k][1]);
            String before = Forges.stateOf(f);
            CHECKS.due("fault " + k, true, () -> Checks.told(f::decode).startsWith("throws"));
            CHECKS.due("fault " + k + ": what stays", before, () -> Forges.stateOf(f));
            CHECKS.due("fault " + k + ": where", offsets[k], f::where);
        }
    }

    /** The last chunk of a file is at fault, after a picture that was itself read. */
    @Says("A call that throws changes nothing but where().")
    static void nothingChangesBehindAReading() {
        for (int s = 0; s <= 3; s++) {
            int scheme = s;
            RasterForge f = Forges.picture(2, 5, 97, 0, 1);
            f.set(0, 0, 0, 7);
            f.encode(scheme);
            f.decode();
            f.decode();
            f.set(0, 0, 0, 9);
            f.set(0, 1, 4, 8);
            f.channel(98, 2, 1);
            int length = f.file(-1);
            f.patch(length, 0);
            String before = Forges.stateOf(f);
            CHECKS.dueIllegal("scheme " + s, f::decode);
            CHECKS.due("scheme " + s + ": where", length, f::where);
            CHECKS.due("scheme " + s + ": what stays", before, () -> Forges.stateOf(f));
            CHECKS.due("scheme " + s + ": the sample", 9.0, () -> f.get(0, 0, 0));
        }
    }

    @Says("A new PICTURE with this width and height, without CHANNELS: width times height.")
    static void begins() {
        RasterForge f = withFault();
        String file = Forges.bytesFrom(f, 0);
        CHECKS.due("8 by 8", 64, () -> f.begin(8, 8));
        CHECKS.due("width", 8, () -> f.count(0));
        CHECKS.due("height", 8, () -> f.count(1));
        CHECKS.due("no channels", 0, () -> f.count(2));
        CHECKS.due("no letter", 0, () -> f.count(10));
        CHECKS.dueIndex("no sample", () -> f.get(0, 0, 0));
        CHECKS.dueIndex("no channel", () -> f.spread(0, 0));
        CHECKS.dueState("nothing to write", () -> f.encode(0));
        CHECKS.due("the file stays", file, () -> Forges.bytesFrom(f, 0));
        CHECKS.due("where stays", 4, f::where);
        CHECKS.due("1 by 1", 1, () -> f.begin(1, 1));
        CHECKS.due("1 by 8", 8, () -> f.begin(1, 8));
        CHECKS.due("8 by 1", 8, () -> f.begin(8, 1));
        CHECKS.due("width 8", 8, () -> f.count(0));
        CHECKS.due("height 1", 1, () -> f.count(1));
    }

    @Says("IllegalArgumentException if one is not 1 to 8.")
    static void beginsNot() {
        int[] wrong = {Integer.MIN_VALUE, -8, -1, 0, 9, 10, 257, Integer.MAX_VALUE};
        for (int w : wrong) {
            RasterForge f = new RasterForge();
            CHECKS.dueIllegal("width " + w, () -> f.begin(w, 1));
            CHECKS.dueIllegal("height " + w, () -> f.begin(1, w));
            CHECKS.dueIllegal("both " + w, () -> f.begin(w, w));
            CHECKS.due("the picture stays", 97, () -> f.count(10));
        }
        RasterForge g = new RasterForge();
        CHECKS.dueIllegal("-1 by -1 is not 1", () -> g.begin(-1, -1));
    }

    @Says("One more CHANNEL: how many.")
    static void channels() {
        RasterForge f = Forges.picture(1, 1);
        CHECKS.due("the first", 1, () -> f.channel(97, 0, 1));
        CHECKS.due("the second, of the next letter", 2, () -> f.channel(98, 2, 2));
        CHECKS.due("the third, of the last letter", 3, () -> f.channel(122, 1, 2));
        CHECKS.due("all", "1 1 3 97 98 122 0 2 1 1 2 2 1 1 1 | 0 | 0 | 0 | ",
                () -> Forges.stateOf(f));
    }

    @Says("IllegalArgumentException if a number is not as said; IllegalStateException if there "
            + "are 3.")
    static void channelsNot() {
        RasterForge f = Forges.picture(1, 1, 98, 0, 1);
        int[][] wrong = {{97, 0, 1}, {98, 0, 1}, {123, 0, 1}, {-99, 0, 1}, {99, -1, 1}, {99, 3, 1},
            {99, 0, 0}, {99, 0, 3}, {99, 0, -1}, {98, 3, 0}};
        for (int[] w : wrong) {
            CHECKS.dueIllegal(w[0] + ", " + w[1] + ", " + w[2], () -> f.channel(w[0], w[1], w[2]));
        }
        f.channel(99, 0, 1);
        f.channel(100, 0, 1);
        CHECKS.dueState("a fourth", () -> f.channel(101, 0, 1));
        CHECKS.dueState("a fourth, again", () -> f.channel(122, 2, 2));
        f.begin(1, 1);
        CHECKS.due("a new picture takes one", 1, () -> f.channel(97, 0, 1));
        // A picture that was read has its own channels.
        f.encode(0);
        f.channel(121, 0, 1);
        f.channel(122, 0, 1);
        f.decode();
        CHECKS.due("behind a reading", 2, () -> f.channel(98, 0, 1));
    }

    @Says("The SAMPLE of CHANNEL c at x, y becomes v: what it is told as then.")
    static void sets() {
        RasterForge f = threeByFour();
        CHECKS.due("the first", 1.0, () -> f.set(0, 0, 0, 1.9));
        CHECKS.due("the last", 65535.0, () -> f.set(0, 2, 3, 1e30));
        CHECKS.due("the last of step 2", (double) 0.1f, () -> f.set(1, 2, 2, 0.1));
        CHECKS.due("channel 0", "1 0 0 0 0 0 0 0 0 0 0 65535", () -> Forges.bitsOf(f, 0));
        CHECKS.due("channel 1", "0 0 0 1036831949", () -> Forges.bitsOf(f, 1));
        CHECKS.due("once more", 0.0, () -> f.set(0, 2, 3, -5));
        CHECKS.due("none is left", "1 0 0 0 0 0 0 0 0 0 0 0", () -> Forges.bitsOf(f, 0));
    }

    @Says("IllegalArgumentException if v is no number, above 1e30 or below -1e30;")
    static void setsNoNumber() {
        for (int type = 0; type <= 2; type++) {
            RasterForge f = Forges.picture(1, 1, 97, type, 1);
            f.set(0, 0, 0, 5);
            for (double v : NO_VALUES) {
                CHECKS.dueIllegal("set " + v, () -> f.set(0, 0, 0, v));
            }
            CHECKS.due("it stays", 5.0, () -> f.get(0, 0, 0));
        }
    }

    @Says("IllegalArgumentException if v is no number, above 1e30 or below -1e30;")
    static void setsTheGreatest() {
        double[] told = {65504.0, (double) 1e30f, 65535.0};
        double[] below = {-65504.0, (double) -1e30f, 0.0};
        for (int t = 0; t <= 2; t++) {
            int type = t;
            RasterForge f = Forges.picture(1, 1, 97, type, 1);
            CHECKS.due("1e30", told[t], () -> f.set(0, 0, 0, 1e30));
            CHECKS.due("just below 1e30", told[t], () -> f.set(0, 0, 0, Math.nextDown(1e30)));
            CHECKS.due("-1e30", below[t], () -> f.set(0, 0, 0, -1e30));
            CHECKS.due("just above -1e30", below[t], () -> f.set(0, 0, 0, Math.nextUp(-1e30)));
        }
        // The nearest float to 1e30 lies above it, so what is told is not taken again.
        RasterForge f = Forges.picture(1, 1, 97, 1, 1);
        double great = f.set(0, 0, 0, 1e30);
        CHECKS.due("what is told", true, () -> great > 1e30);
        CHECKS.dueIllegal("set to it", () -> f.set(0, 0, 0, great));
        CHECKS.dueIllegal("spread of it", () -> f.spread(0, great));
    }

    @Says("IndexOutOfBoundsException if there is no such SAMPLE.")
    static void setsNowhere() {
        RasterForge f = threeByFour();
        f.set(0, 2, 3, 7);
        String before = Forges.stateOf(f);
        for (int[] n : NOWHERE) {
            CHECKS.dueIndex(n[0] + ", " + n[1] + ", " + n[2], () -> f.set(n[0], n[1], n[2], 5));
        }
        CHECKS.due("nothing changes", before, () -> Forges.stateOf(f));
        // Places of an earlier picture that was greater.
        RasterForge g = Forges.picture(8, 8, 97, 0, 1, 98, 0, 1);
        g.begin(2, 2);
        g.channel(97, 0, 1);
        CHECKS.dueIndex("an old column", () -> g.set(0, 2, 0, 1));
        CHECKS.dueIndex("an old line", () -> g.set(0, 0, 2, 1));
        CHECKS.dueIndex("an old channel", () -> g.set(1, 0, 0, 1));
        CHECKS.due("the last one", 1.0, () -> g.set(0, 1, 1, 1));
    }

    @Says("What it is told as, likewise.")
    static void gets() {
        RasterForge f = threeByFour();
        f.set(0, 2, 3, 70000);
        f.set(1, 2, 2, -0.1);
        CHECKS.due("the last", 65535.0, () -> f.get(0, 2, 3));
        CHECKS.due("the last of step 2", (double) -0.1f, () -> f.get(1, 2, 2));
        CHECKS.due("the first", 0.0, () -> f.get(0, 0, 0));
        for (int[] n : NOWHERE) {
            CHECKS.dueIndex(n[0] + ", " + n[1] + ", " + n[2], () -> f.get(n[0], n[1], n[2]));
        }
        f.begin(8, 8);
        CHECKS.dueIndex("no channels", () -> f.get(0, 0, 0));
    }

    @Says("Its BITS, likewise.")
    static void bits() {
        RasterForge f = threeByFour();
        f.set(0, 2, 3, 70000);
        f.set(1, 2, 2, -0.1);
        CHECKS.due("the last", 65535, () -> f.bits(0, 2, 3));
        CHECKS.due("the last of step 2", 0xBDCCCCCD, () -> f.bits(1, 2, 2));
        CHECKS.due("the first", 0, () -> f.bits(0, 0, 0));
        for (int[] n : NOWHERE) {
            CHECKS.dueIndex(n[0] + ", " + n[1] + ", " + n[2], () -> f.bits(n[0], n[1], n[2]));
        }
        f.begin(8, 8);
        CHECKS.dueIndex("no channels", () -> f.bits(0, 0, 0));
    }

    @Says("THE FILE becomes that of the PICTURE, by a SCHEME: how many BYTES.")
    static void encodes() {
        int[] due = {49, 22, 21, 22};
        for (int s = 0; s <= 3; s++) {
            int scheme = s;
            RasterForge f = Forges.picture(8, 1, 97, 1, 1);
            f.set(0, 0, 0, 0x1p-149);
            String picture = Forges.bitsOf(f, 0);
            CHECKS.due("scheme " + s, due[s], () -> f.encode(scheme));
            CHECKS.due("scheme " + s + ": length", due[s], () -> f.file(-1));
            CHECKS.due("scheme " + s + " in the file", s, () -> f.file(7));
            CHECKS.due("the picture stays", picture, () -> Forges.bitsOf(f, 0));
            CHECKS.due("no decode was", -2, f::where);
        }
    }

    @Says("IllegalArgumentException for another SCHEME; IllegalStateException if there are no "
            + "CHANNELS.")
    static void encodesNot() {
        RasterForge f = new RasterForge();
        f.encode(0);
        int[] wrong = {Integer.MIN_VALUE, -2, -1, 4, 5, 256, Integer.MAX_VALUE};
        for (int w : wrong) {
            CHECKS.dueIllegal("scheme " + w, () -> f.encode(w));
        }
        f.begin(1, 1);
        for (int s = 0; s <= 3; s++) {
            int scheme = s;
            CHECKS.dueState("no channels, scheme " + s, () -> f.encode(scheme));
        }
        CHECKS.due("the file stays", 19, () -> f.file(-1));
        f.channel(97, 0, 1);
        CHECKS.due("one channel", 19, () -> f.encode(3));
    }

    @Says("The PICTURE becomes that of THE FILE: its SCHEME.")
    static void decodes() {
        for (int s = 0; s <= 3; s++) {
            int scheme = s;
            RasterForge f = Forges.picture(3, 5, 98, 2, 2, 120, 0, 1);
            f.set(0, 2, 4, 9);
            f.set(1, 2, 4, -0.5);
            f.encode(scheme);
            String before = Forges.stateOf(f);
            f.begin(8, 8);
            f.channel(97, 1, 1);
            f.set(0, 2, 4, 3);
            CHECKS.due("scheme " + s, s, f::decode);
            CHECKS.due("scheme " + s + ": all", before, () -> Forges.stateOf(f));
            CHECKS.due("scheme " + s + ": again", s, f::decode);
            CHECKS.due("scheme " + s + ": all again", before, () -> Forges.stateOf(f));
        }
    }

    @Says("IllegalArgumentException with a FAULT; UnsupportedOperationException if the first one "
            + "is that something is UNKNOWN; the PICTURE stays then.")
    static void decodesNot() {
        RasterForge f = new RasterForge();
        f.set(0, 0, 0, 3);
        CHECKS.dueIllegal("an empty file", f::decode);
        f.encode(1);
        f.patch(4, 0);
        CHECKS.dueUnknown("version", f::decode);
        f.patch(5, 0);
        CHECKS.dueUnknown("version, then width", f::decode);
        f.patch(3, 0);
        CHECKS.dueIllegal("a fault, then version", f::decode);
        Forges.with(f, 3, 1, 4, 2, 5, 1, 7, 4);
        CHECKS.dueUnknown("scheme", f::decode);
        f.patch(8, 0);
        CHECKS.dueUnknown("scheme, then channels", f::decode);
        f.patch(6, 0);
        CHECKS.dueIllegal("height, then scheme", f::decode);
        CHECKS.due("the picture stays", true, () -> Forges.stateOf(f).startsWith(
                "1 1 1 97 0 0 0 0 0 1 0 0 1 0 0 | 16896 |"));
        Forges.with(f, 6, 1, 7, 1, 8, 1);
        CHECKS.due("all mended", 1, f::decode);
        CHECKS.due("read", 3.0, () -> f.get(0, 0, 0));
    }

    @Says("The OFFSET of the FAULT of the latest decode; -2 if it had none, or there was none.")
    static void where() {
        RasterForge f = new RasterForge();
        CHECKS.due("there was none", -2, f::where);
        f.encode(0);
        CHECKS.due("still none", -2, f::where);
        f.patch(19, 0);
        CHECKS.due("before it is read", -2, f::where);
        CHECKS.dueIllegal("a byte left", f::decode);
        CHECKS.due("at the end", 19, f::where);
        f.patch(0, 0);
        CHECKS.due("the file is not read again", 19, f::where);
        CHECKS.dueIllegal("the first byte", f::decode);
        CHECKS.due("offset 0", 0, f::where);
        CHECKS.due("asked twice", 0, f::where);
        Forges.with(f, 0, 118, 4, 9);
        CHECKS.dueUnknown("version", f::decode);
        CHECKS.due("what is unknown", 4, f::where);
        f.begin(2, 2);
        CHECKS.due("behind begin", 4, f::where);
        f.channel(97, 0, 1);
        f.encode(0);
        CHECKS.due("behind encode", 4, f::where);
        CHECKS.due("a good file", 0, f::decode);
        CHECKS.due("it had none", -2, f::where);
        f.cut(0);
        CHECKS.due("behind cut", -2, f::where);
        CHECKS.dueIllegal("an empty file", f::decode);
        CHECKS.due("behind its last byte", 0, f::where);
    }

    @Says("BYTE k of THE FILE; with k = -1 how many. IndexOutOfBoundsException for another k.")
    static void file() {
        RasterForge f = new RasterForge();
        CHECKS.due("none", 0, () -> f.file(-1));
        CHECKS.dueIndex("none: byte 0", () -> f.file(0));
        f.patch(0, 0);
        CHECKS.due("one", 1, () -> f.file(-1));
        CHECKS.due("the first", 0, () -> f.file(0));
        CHECKS.dueIndex("one: byte 1", () -> f.file(1));
        f.patch(1, 255);
        CHECKS.due("the last", 255, () -> f.file(1));
        int[] wrong = {Integer.MIN_VALUE, -3, -2, 2, 3, 1499, 1500, Integer.MAX_VALUE};
        for (int w : wrong) {
            CHECKS.dueIndex("byte " + w, () -> f.file(w));
        }
        f.cut(1);
        CHECKS.dueIndex("one that was cut", () -> f.file(1));
    }

    @Says("BYTE k of THE FILE becomes b (0 to 255), with k as many as there are it comes behind: "
            + "what it was (-1).")
    static void patches() {
        RasterForge f = new RasterForge();
        CHECKS.due("behind none", -1, () -> f.patch(0, 255));
        CHECKS.due("behind one", -1, () -> f.patch(1, 0));
        CHECKS.due("behind two", -1, () -> f.patch(2, 5));
        CHECKS.due("the first", 255, () -> f.patch(0, 0));
        CHECKS.due("again", 0, () -> f.patch(0, 255));
        CHECKS.due("the last", 5, () -> f.patch(2, 6));
        CHECKS.due("the same", 6, () -> f.patch(2, 6));
        CHECKS.due("all", "255 0 6", () -> Forges.bytesFrom(f, 0));
        f.cut(1);
        CHECKS.due("where one was cut", -1, () -> f.patch(1, 9));
        CHECKS.due("all then", "255 9", () -> Forges.bytesFrom(f, 0));
    }

    /** Of 1500 bytes see FileEdgesTest, fullFile. */
    @Says("IllegalArgumentException for another b; IndexOutOfBoundsException for another k, or if "
            + "there are 1500 then.")
    static void patchesNot() {
        RasterForge f = Forges.adding(new RasterForge(), 7, 8);
        int[] noBytes = {Integer.MIN_VALUE, -256, -1, 256, 511, Integer.MAX_VALUE};
        for (int b : noBytes) {
            CHECKS.dueIllegal("byte 0 to " + b, () -> f.patch(0, b));
            CHECKS.dueIllegal("behind the last, " + b, () -> f.patch(2, b));
            CHECKS.dueIllegal("nowhere, " + b, () -> f.patch(9, b));
        }
        int[] nowhere = {Integer.MIN_VALUE, -2, -1, 3, 4, 1499, 1500, Integer.MAX_VALUE};
        for (int k : nowhere) {
            CHECKS.dueIndex("byte " + k, () -> f.patch(k, 255));
        }
        CHECKS.due("all", "7 8", () -> Forges.bytesFrom(f, 0));
        RasterForge empty = new RasterForge();
        CHECKS.dueIndex("byte 1 of none", () -> empty.patch(1, 0));
        CHECKS.due("still none", 0, () -> empty.file(-1));
    }

    @Says("THE FILE has its first n BYTES alone: how many went. IllegalArgumentException if n is "
            + "not 0 to their number.")
    static void cuts() {
        RasterForge f = new RasterForge();
        CHECKS.due("none of none", 0, () -> f.cut(0));
        CHECKS.dueIllegal("one of none", () -> f.cut(1));
        Forges.adding(f, 1, 2, 3, 4);
        int[] wrong = {Integer.MIN_VALUE, -4, -1, 5, 6, 1500, Integer.MAX_VALUE};
        for (int w : wrong) {
            CHECKS.dueIllegal("cut " + w, () -> f.cut(w));
        }
        CHECKS.due("all stay", 0, () -> f.cut(4));
        CHECKS.due("all", "1 2 3 4", () -> Forges.bytesFrom(f, 0));
        CHECKS.due("one goes", 1, () -> f.cut(3));
        CHECKS.dueIllegal("it does not come again", () -> f.cut(4));
        CHECKS.due("three", "1 2 3", () -> Forges.bytesFrom(f, 0));
        CHECKS.due("all but one go", 2, () -> f.cut(1));
        CHECKS.due("the last goes", 1, () -> f.cut(0));
        CHECKS.due("none", 0, () -> f.file(-1));
        CHECKS.due("nothing goes", 0, () -> f.cut(0));
    }

    @Says("What 0: width, 1: height, 2: CHANNELS; 10 + c: the LETTER of a CHANNEL, 20 + c: its "
            + "TYPE, 30 + c: its STEP, 40 + c: how many SAMPLES it has")
    static void counts() {
        RasterForge f = Forges.picture(7, 5, 100, 2, 2, 104, 1, 1, 122, 0, 2);
        int[][] due = {{0, 7}, {1, 5}, {2, 3}, {10, 100}, {11, 104}, {12, 122}, {20, 2}, {21, 1},
            {22, 0}, {30, 2}, {31, 1}, {32, 2}, {40, 12}, {41, 35}, {42, 12}};
        for (int[] d : due) {
            CHECKS.due("count(" + d[0] + ")", d[1], () -> f.count(d[0]));
        }
        CHECKS.due("8 by 8", 64, () -> Forges.picture(8, 8, 97, 0, 1).count(40));
        CHECKS.due("8 by 8, step 2", 16, () -> Forges.picture(8, 8, 97, 0, 2).count(40));
        CHECKS.due("1 by 1, step 2", 1, () -> Forges.picture(1, 1, 97, 0, 2).count(40));
        CHECKS.due("2 by 1, step 2", 1, () -> Forges.picture(2, 1, 97, 0, 2).count(40));
        CHECKS.due("1 by 3, step 2", 2, () -> Forges.picture(1, 3, 97, 0, 2).count(40));
    }

    @Says("(0 for all without it, c 0 to 2).")
    static void countsWithoutChannels() {
        RasterForge f = Forges.picture(2, 2, 97, 2, 2, 98, 2, 2, 99, 2, 2);
        f.begin(2, 2);
        for (int c = 0; c <= 2; c++) {
            for (int tens = 10; tens <= 40; tens += 10) {
                int what = tens + c;
                CHECKS.due("count(" + what + ")", 0, () -> f.count(what));
            }
        }
        f.channel(97, 2, 2);
        CHECKS.due("letter of channel 0", 97, () -> f.count(10));
        CHECKS.due("letter of channel 1", 0, () -> f.count(11));
        CHECKS.due("step of channel 1", 0, () -> f.count(31));
        CHECKS.due("samples of channel 2", 0, () -> f.count(42));
    }

    @Says("IllegalArgumentException for others.")
    static void countsNothingElse() {
        RasterForge f = Forges.picture(2, 2, 97, 2, 2, 98, 2, 2, 99, 2, 2);
        for (int w = -60; w <= 400; w++) {
            int what = w;
            boolean known = w >= 0 && w <= 42 && w % 10 <= 2;
            if (!known) {
                CHECKS.dueIllegal("count(" + w + ")", () -> f.count(what));
            }
        }
        CHECKS.dueIllegal("count(least)", () -> f.count(Integer.MIN_VALUE));
        CHECKS.dueIllegal("count(greatest)", () -> f.count(Integer.MAX_VALUE));
    }

    @Says("The greatest |s - v| of all SAMPLES s of CHANNEL c, as told.")
    static void spreads() {
        RasterForge f = Forges.picture(3, 3, 97, 0, 2, 98, 1, 1, 99, 2, 1);
        CHECKS.due("zeros", 0.0, () -> f.spread(0, 0));
        CHECKS.due("zeros, and -0", 0.0, () -> f.spread(0, -0.0));
        CHECKS.due("zeros, and below 0", 2.5, () -> f.spread(0, -2.5));
        CHECKS.due("zeros, and an eighth", 0.125, () -> f.spread(0, 0.125));
        CHECKS.due("zeros, and the least", Double.MIN_VALUE,
                () -> f.spread(1, Double.MIN_VALUE));
        CHECKS.due("zeros, and the least below 0", Double.MIN_VALUE,
                () -> f.spread(2, -Double.MIN_VALUE));
        // Samples alone count: those off the step are no zeros.
        for (int k = 0; k < 4; k++) {
            f.set(0, k % 2 * 2, k / 2 * 2, 5 + k);
        }
        CHECKS.due("the last is farthest", 3.0, () -> f.spread(0, 5));
        CHECKS.due("the first is farthest", 3.0, () -> f.spread(0, 8));
        CHECKS.due("both are", 1.5, () -> f.spread(0, 6.5));
        f.set(1, 2, 2, 0.1);
        CHECKS.due("as told", (double) 0.1f, () -> f.spread(1, 0));
        f.set(2, 1, 1, 1e30);
        CHECKS.due("as told, a whole", 65535.0, () -> f.spread(2, 0));
        CHECKS.due("the greatest v", 1e30, () -> f.spread(2, 1e30));
        CHECKS.due("the lowest v", 1e30, () -> f.spread(0, -1e30));
        f.set(1, 0, 0, -1e30);
        CHECKS.due("both far off", (double) 1e30f + 1e30, () -> f.spread(1, 1e30));
    }

    @Says("IndexOutOfBoundsException if there is no CHANNEL c; IllegalArgumentException for v as "
            + "by set (this before).")
    static void spreadsNot() {
        RasterForge f = threeByFour();
        int[] wrong = {Integer.MIN_VALUE, -2, -1, 2, 3, 4, Integer.MAX_VALUE};
        for (int c : wrong) {
            CHECKS.dueIndex("channel " + c, () -> f.spread(c, 0));
            CHECKS.dueIndex("channel " + c + ", 1e30", () -> f.spread(c, 1e30));
            CHECKS.dueIndex("channel " + c + ", -1e30", () -> f.spread(c, -1e30));
        }
        for (double v : NO_VALUES) {
            CHECKS.dueIllegal("channel 0, " + v, () -> f.spread(0, v));
            CHECKS.dueIllegal("channel 2, " + v, () -> f.spread(2, v));
        }
        f.begin(1, 1);
        CHECKS.dueIndex("no channels", () -> f.spread(0, 0));
        CHECKS.dueIllegal("no channels, no number", () -> f.spread(0, Double.NaN));
    }
}
