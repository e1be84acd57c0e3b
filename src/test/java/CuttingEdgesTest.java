/** The edges in the document's sentence on scheme 2. */
public final class CuttingEdgesTest {
    private static final Checks CHECKS = new Checks("edges of cutting");

    public static void main(String[] args) {
        Edges.run(CuttingEdgesTest.class, CHECKS);
    }

    /** Writes a float by scheme 2 and reads it: the 24 bits that are left of it. */
    private static void isCut(int bits, int cut) {
        RasterForge f = Forges.picture(1, 1, 97, 1, 1);
        f.encode(0);
        for (int k = 0; k < 4; k++) {
            f.patch(17 + k, bits >>> 8 * k & 255);
        }
        f.decode();
        String what = "bits " + Integer.toHexString(bits);
        CHECKS.due(what, bits, () -> f.bits(0, 0, 0));
        f.encode(2);
        CHECKS.due(what + ": the picture stays", bits, () -> f.bits(0, 0, 0));
        CHECKS.due(what + ": read", 2, f::decode);
        CHECKS.due(what + ": bits then", cut << 8, () -> f.bits(0, 0, 0));
    }

    @Says("FLOAT BITS are CUT: 24 bits, (BITS + 128) shifted right by 8 without sign,")
    static void roundedBy128() {
        isCut(0, 0);
        isCut(127, 0);
        isCut(128, 1);
        isCut(255, 1);
        isCut(256, 1);
        isCut(383, 1);
        isCut(384, 2);
        isCut(0x3F80007F, 0x3F8000);
        isCut(0x3F800080, 0x3F8001);
        isCut(0x3F8000FF, 0x3F8001);
        // Rounding goes over into e.
        isCut(0x007FFF7F, 0x007FFF);
        isCut(0x007FFF80, 0x008000);
        isCut(0x3FFFFF80, 0x400000);
        isCut(0x3FFFFFFF, 0x400000);
    }

    @Says("(BITS + 128) shifted right by 8 without sign,")
    static void floatsBelow0() {
        isCut(0xBF80007F, 0xBF8000);
        isCut(0xBF800080, 0xBF8001);
        isCut(0xBFFFFFFF, 0xC00000);
        isCut(0x80000000, 0x800000);
        isCut(0x80000001, 0x800000);
        isCut(0x8000007F, 0x800000);
        isCut(0x80000080, 0x800001);
        RasterForge f = Forges.picture(1, 1, 97, 1, 1);
        f.set(0, 0, 0, -0x1p-149);
        f.encode(2);
        // 0 0 128, of which the differences are three zeros.
        CHECKS.due("the least below 0", "0 2 0 2 0", () -> Forges.bytesFrom(f, 14));
        f.set(0, 0, 0, -1.5);
        f.encode(2);
        CHECKS.due("-1.5", "0 3 0 0 192 191", () -> Forges.bytesFrom(f, 14));
    }

    @Says("but without the + 128 if e would be 255 by it;")
    static void greatestFloats() {
        isCut(0x7F7FFE7F, 0x7F7FFE);
        isCut(0x7F7FFE80, 0x7F7FFF);
        isCut(0x7F7FFF7F, 0x7F7FFF);
        isCut(0x7F7FFF80, 0x7F7FFF);
        isCut(0x7F7FFFFF, 0x7F7FFF);
        isCut(0xFF7FFE80, 0xFF7FFF);
        isCut(0xFF7FFF7F, 0xFF7FFF);
        isCut(0xFF7FFF80, 0xFF7FFF);
        isCut(0xFF7FFFFF, 0xFF7FFF);
        // One step of e lower rounding goes on.
        isCut(0x7EFFFF80, 0x7F0000);
    }

    @Says("the CUT BYTES are like RAW ones, with three BYTES of a FLOAT, the lowest first.")
    static void threeBytes() {
        RasterForge f = Forges.picture(1, 2, 97, 1, 1, 98, 0, 1);
        f.set(0, 0, 0, Float.intBitsToFloat(0x12345600));
        f.set(0, 0, 1, Float.intBitsToFloat(0x2468AC00));
        f.set(1, 0, 0, 1);
        f.set(1, 0, 1, -1);
        f.encode(2);
        CHECKS.due("cut", "17 0 0 10 0 86 52 18 0 60 172 104 36 0 188",
                () -> Forges.bytesFrom(f, 15));
        CHECKS.due("read", 2, f::decode);
        CHECKS.due("the second line", 0x2468AC00, () -> f.bits(0, 0, 1));
    }

    @Says("In each line and CHANNEL each SAMPLE but the first becomes itself less the one before "
            + "(as that was), mod 2^16,")
    static void wholesWrapAround() {
        RasterForge f = Forges.picture(8, 1, 97, 2, 1);
        int[] wholes = {65535, 0, 65535, 0, 65535, 0, 65535, 0};
        for (int x = 0; x < 8; x++) {
            f.set(0, x, 0, wholes[x]);
        }
        // 65535, 1, 65535, 1, ..: upper bytes 255, 0, 255, 0, ..
        f.encode(2);
        CHECKS.due("no run: raw", "0 16 0 255 255 0 0 255 255 0 0 255 255 0 0 255 255 0 0",
                () -> Forges.bytesFrom(f, 14));
        int[] falling = {3, 2, 1, 0, 65535, 65534, 65533, 65532};
        for (int x = 0; x < 8; x++) {
            f.set(0, x, 0, falling[x]);
        }
        // 3, then 65535 seven times: 3 255 .. 255, 0 255 .. 255.
        f.encode(2);
        CHECKS.due("falling below 0", "0 10 0 254 3 124 5 128 254 129 127 5 128",
                () -> Forges.bytesFrom(f, 14));
        CHECKS.due("read", 2, f::decode);
        CHECKS.due("all", "3 2 1 0 65535 65534 65533 65532", () -> Forges.bitsOf(f, 0));
    }

    @Says("mod 2^16, 2^24; then the BYTES, like the CUT ones, are PACKED.")
    static void floatsWrapAround() {
        RasterForge f = Forges.picture(8, 1, 97, 1, 1);
        // Cut: 0 and then 0x800001, which is -2^-141, seven times.
        for (int x = 1; x < 8; x++) {
            f.set(0, x, 0, -0x1p-141);
        }
        // 0 0 0, 1 0 128, then zeros: at even places zeros alone, at odd ones 0 1 128 0 ..
        f.encode(2);
        CHECKS.due("up", "0 10 0 255 0 11 128 253 129 255 0 7 128",
                () -> Forges.bytesFrom(f, 14));
        CHECKS.due("up: read", 2, f::decode);
        CHECKS.due("up: the last", -0x1p-141, () -> f.get(0, 7, 0));
        f.begin(8, 1);
        f.channel(97, 1, 1);
        // Cut: 1 and then seven times 0: 1 0 0, 255 255 255, then zeros: at even places
        // 1 0 255 0 .., at odd ones 0 255 255 0 ..
        f.set(0, 0, 0, 0x1p-141);
        f.encode(2);
        CHECKS.due("below 0", "0 13 0 252 1 127 127 129 8 128 253 127 128 129 7 128",
                () -> Forges.bytesFrom(f, 14));
        CHECKS.due("below 0: read", 2, f::decode);
        CHECKS.due("below 0: all", "256 0 0 0 0 0 0 0", () -> Forges.bitsOf(f, 0));
    }

    /** The first sample of each line and channel stays, whatever stood before it. */
    @Says("In each line and CHANNEL each SAMPLE but the first becomes itself less the one before")
    static void eachLineAndChannelAnew() {
        RasterForge f = Forges.picture(4, 2, 97, 2, 1, 98, 2, 1);
        for (int k = 0; k < 8; k++) {
            f.set(0, k % 4, k / 4, 7);
            f.set(1, k % 4, k / 4, 7);
        }
        // 7 0 0 0 four times at even places, zeros at odd ones.
        f.encode(2);
        CHECKS.due("7 at each begin", "17 0 0 17 0 242"
                + " 7 121 128 128 135 121 128 128 135 121 128 128 135 121 17 128",
                () -> Forges.bytesFrom(f, 15));
        CHECKS.due("read", 2, f::decode);
        CHECKS.due("the first channel", "7 7 7 7 7 7 7 7", () -> Forges.bitsOf(f, 0));
        CHECKS.due("the second channel", "7 7 7 7 7 7 7 7", () -> Forges.bitsOf(f, 1));
    }
}
