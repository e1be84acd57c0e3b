/** The edges in the document's sentences on values that become samples, and how they are told. */
public final class ValueEdgesTest {
    private static final Checks CHECKS = new Checks("edges of values");
    private static final double TINY_HALF = 0x1p-24;
    private static final int GREATEST_HALF = 31743;
    private static final int SIGN_OF_HALF = 32768;
    /** An object is good for 512 calls. */
    private static final int MOST_CALLS = 500;

    private static RasterForge forge;
    private static int forgeType = -1;
    private static int calls;

    public static void main(String[] args) {
        Edges.run(ValueEdgesTest.class, CHECKS);
    }

    private static RasterForge forgeOf(int type) {
        if (forgeType != type || calls > MOST_CALLS) {
            forge = Forges.picture(1, 1, 97, type, 1);
            forgeType = type;
            calls = 2;
        }
        calls += 3;
        return forge;
    }

    private static void becomes(int type, double v, int bits, double told) {
        RasterForge f = forgeOf(type);
        String what = "type " + type + ", " + v;
        CHECKS.due(what + ": set", told, () -> f.set(0, 0, 0, v));
        CHECKS.due(what + ": bits", bits, () -> f.bits(0, 0, 0));
        CHECKS.due(what + ": get", told, () -> f.get(0, 0, 0));
    }

    private static void halfBecomes(double v, int bits) {
        becomes(0, v, bits, halfOf(bits));
    }

    /** Also looks at the value's opposite, which has the sign more. */
    private static void halvesBecome(double v, int bits) {
        halfBecomes(v, bits);
        halfBecomes(-v, bits == 0 ? 0 : bits + SIGN_OF_HALF);
    }

    /** As the document says it, but with the library's powers. */
    private static double halfOf(int bits) {
        int size = bits % SIGN_OF_HALF;
        int e = size / 1024;
        int f = size % 1024;
        double told = e == 0 ? Math.scalb((double) f, -24) : Math.scalb(1024.0 + f, e - 25);
        return bits > SIGN_OF_HALF ? -told : told;
    }

    /** What is as near to the half of these bits as to the next one. */
    private static double middleAbove(int bits) {
        return (halfOf(bits) + halfOf(bits + 1)) / 2;
    }

    private static void floatBecomes(double v) {
        float due = (float) v;
        becomes(1, v, due == 0 ? 0 : Float.floatToIntBits(due), due == 0 ? 0.0 : due);
    }

    @Says("if v is below 0 32768 more than those of -v")
    static void halvesBelow0() {
        for (int b = 1; b <= GREATEST_HALF; b++) {
            halfBecomes(-halfOf(b), b + 32768);
        }
    }

    @Says("but 0 if these are 0.")
    static void halvesThatBecome0() {
        double[] none = {-0.0, -Double.MIN_VALUE, -Double.MIN_NORMAL, -1e-30, -0x1p-26,
            Math.nextUp(-TINY_HALF / 2), -TINY_HALF / 2};
        for (double v : none) {
            becomes(0, v, 0, 0.0);
        }
        becomes(0, Math.nextDown(-TINY_HALF / 2), 32769, -TINY_HALF);
    }

    @Says("Of v from 65520 on 31743.")
    static void greatHalves() {
        double[] great = {65520, Math.nextUp(65520.0), 65521, 65535, 65536, 131008, 1e9,
            Math.nextDown(1e30), 1e30};
        for (double v : great) {
            becomes(0, v, 31743, 65504.0);
            becomes(0, -v, 64511, -65504.0);
        }
    }

    @Says("Else the nearest one,")
    static void nearestHalf() {
        for (int b = 0; b < GREATEST_HALF; b++) {
            halvesBecome(Math.nextDown(middleAbove(b)), b);
            halvesBecome(Math.nextUp(middleAbove(b)), b + 1);
        }
        halvesBecome(Math.nextUp(65504.0), 31743);
        halvesBecome(Math.nextDown(65520.0), 31743);
    }

    @Says("of two as near that with even BITS")
    static void evenHalf() {
        for (int b = 0; b < GREATEST_HALF; b++) {
            halvesBecome(middleAbove(b), b % 2 == 0 ? b : b + 1);
        }
    }

    @Says("BITS b from 0 to 1023: b * 2^-24;")
    static void smallHalves() {
        for (int b = 0; b <= 1023; b++) {
            becomes(0, b * TINY_HALF, b, b * TINY_HALF);
        }
        becomes(0, 1023.5 * TINY_HALF, 1024, 1024 * TINY_HALF);
        becomes(0, Math.nextDown(1023.5 * TINY_HALF), 1023, 1023 * TINY_HALF);
    }

    @Says("b = 1024 * e + f, with e from 1 to 30, f from 0 to 1023: (1024 + f) * 2^(e - 25).")
    static void halvesWithExponent() {
        becomes(0, 0x1p-14, 1024, 0x1p-14);
        becomes(0, 0x1.ffcp-14, 2047, 0x1.ffcp-14);
        becomes(0, 0x1p-13, 2048, 0x1p-13);
        becomes(0, 32768, 1024 * 30, 32768.0);
        becomes(0, 65504, 1024 * 30 + 1023, 65504.0);
        for (int b = 1024; b <= GREATEST_HALF; b++) {
            halvesBecome(halfOf(b), b);
        }
    }

    /** Every power of two from the least double on, and its neighbours. */
    @Says("A VALUE v (a double) becomes a SAMPLE")
    static void valuesBetween0AndAnEighth() {
        for (int power = -1074; power <= -3; power++) {
            double v = Math.scalb(1.0, power);
            double[] around = {Math.nextDown(v), v, Math.nextUp(v), 1.5 * v, 1.25 * v};
            for (double a : around) {
                floatBecomes(a);
                floatBecomes(-a);
                halvesBecome(a, smallHalf(a));
                becomes(2, a, 0, 0.0);
                becomes(2, -a, 0, 0.0);
            }
        }
        halvesBecome(0.1, 11878);
        halvesBecome(Math.nextDown(0.125), 12288);
        halvesBecome(0.125, 12288);
    }

    /** The nearest half below 0.25, with the library's rounding to even. */
    private static int smallHalf(double v) {
        int e = Math.max(Math.getExponent(v) + 15, 1);
        return (int) Math.rint(Math.scalb(v, 25 - e)) + 1024 * (e - 1);
    }

    @Says("of the nearest float, as Java's cast gives it:")
    static void nearestFloat() {
        int[] parts = {0, 1, 2, 3, 4194303, 4194304, 8388605, 8388606, 8388607};
        for (int e = 0; e <= 225; e++) {
            for (int f : parts) {
                double v = Float.intBitsToFloat(e * 8388608 + f);
                double next = Float.intBitsToFloat(e * 8388608 + f + 1);
                double middle = (v + next) / 2;
                double[] around = {v, Math.nextUp(v), Math.nextDown(middle), middle,
                    Math.nextUp(middle), -middle, -Math.nextUp(middle)};
                for (double a : around) {
                    floatBecomes(a);
                }
            }
        }
        floatBecomes(1e30);
        floatBecomes(-1e30);
    }

    @Says("0 if that is 0, else the sign, 8 bits of e, 23 of f")
    static void floatsThatBecome0() {
        double[] none = {0.0, -0.0, Double.MIN_VALUE, -Double.MIN_VALUE, 1e-300, -1e-300,
            0x1p-150, -0x1p-150, Math.nextDown(0x1p-150), Math.nextUp(-0x1p-150)};
        for (double v : none) {
            becomes(1, v, 0, 0.0);
        }
        becomes(1, Math.nextUp(0x1p-150), 1, 0x1p-149);
        becomes(1, Math.nextDown(-0x1p-150), -2147483647, -0x1p-149);
    }

    @Says("f * 2^-149 with e 0,")
    static void smallFloats() {
        becomes(1, 0x1p-149, 1, 0x1p-149);
        becomes(1, 0x1.8p-149, 2, 0x1p-148);
        becomes(1, 0x1.4p-147, 5, 5 * 0x1p-149);
        becomes(1, 8388607 * 0x1p-149, 8388607, 8388607 * 0x1p-149);
        becomes(1, -8388607 * 0x1p-149, -2147483648 + 8388607, -8388607 * 0x1p-149);
        becomes(1, 8388607.5 * 0x1p-149, 8388608, 0x1p-126);
    }

    @Says("else (8388608 + f) * 2^(e - 150).")
    static void floatsWithExponent() {
        becomes(1, 0x1p-126, 8388608, 0x1p-126);
        becomes(1, 16777215 * 0x1p-149, 16777215, 16777215 * 0x1p-149);
        becomes(1, 0x1p-125, 16777216, 0x1p-125);
        becomes(1, 16777215, 1266679807, 16777215.0);
        becomes(1, 16777216, 1266679808, 16777216.0);
        becomes(1, 16777217, 1266679808, 16777216.0);
        becomes(1, 16777219, 1266679810, 16777220.0);
        becomes(1, -1, -1082130432, -1.0);
    }

    /** Those above 1e30 come by reading alone. */
    @Says("else (8388608 + f) * 2^(e - 150).")
    static void floatsUpToTheGreatest() {
        int[] parts = {0, 1, 8388606, 8388607};
        for (int e = 0; e <= 254; e++) {
            RasterForge f = Forges.picture(1, 1, 97, 1, 1);
            f.encode(0);
            for (int part : parts) {
                int bits = e * 8388608 + part;
                patchFloat(f, bits);
                f.decode();
                CHECKS.due("bits " + bits, bits, () -> f.bits(0, 0, 0));
                CHECKS.due("told " + bits, (double) Float.intBitsToFloat(bits),
                        () -> f.get(0, 0, 0));
            }
        }
    }

    private static void patchFloat(RasterForge f, int bits) {
        for (int k = 0; k < 4; k++) {
            f.patch(17 + k, bits >>> 8 * k & 255);
        }
    }

    @Says("WHOLE: BITS of 16: v cut to an int,")
    static void wholesAreCut() {
        double[][] due = {{0.5, 0}, {Math.nextDown(1.0), 0}, {1, 1}, {1.5, 1}, {2.5, 2},
            {Math.nextDown(65535.0), 65534}, {65534.5, 65534}, {65535, 65535}, {32767.9, 32767},
            {32768, 32768}};
        for (double[] d : due) {
            becomes(2, d[0], (int) d[1], d[1]);
        }
        for (int b = 0; b <= 65535; b += 255) {
            becomes(2, b, b, b);
        }
    }

    @Says("but 0 if it is below 0,")
    static void wholesBelow0() {
        double[] below = {-0.0, -0.5, Math.nextUp(-1.0), -1, -1.5, -2, -32768, -65535, -65536,
            -65537, -2147483648.0, -2147483649.0, -4294967295.0, -4294967296.0, -1e18, -1e30};
        for (double v : below) {
            becomes(2, v, 0, 0.0);
        }
    }

    @Says("65535 if it is above.")
    static void wholesAbove() {
        double[] above = {65535.5, Math.nextDown(65536.0), 65536, 65537, 131071, 2147483647.0,
            2147483648.0, 4294967296.0, 4294967297.0, 1e18, 1e30};
        for (double v : above) {
            becomes(2, v, 65535, 65535.0);
        }
    }

    @Says("A SAMPLE is told as the double that its BITS say (WHOLE: the BITS themselves).")
    static void tellsAllBitsOfTwoBytes() {
        for (int bits = 0; bits <= 65535; bits += 8) {
            tellsEight(2, bits);
            if ((bits & 31744) != 31744) {
                tellsEight(0, bits);
            }
        }
    }

    /** Reads eight samples of which the first has these bits and each other one more. */
    private static void tellsEight(int type, int first) {
        RasterForge f = Forges.picture(8, 1, 97, type, 1);
        f.encode(0);
        for (int k = 0; k < 8; k++) {
            f.patch(17 + 2 * k, first + k & 255);
            f.patch(18 + 2 * k, first >> 8);
        }
        f.decode();
        for (int k = 0; k < 8; k++) {
            int x = k;
            int bits = first + k;
            CHECKS.due("type " + type + ": bits " + bits, bits, () -> f.bits(0, x, 0));
            CHECKS.due("type " + type + ": told " + bits, type == 2 ? bits : halfOf(bits),
                    () -> f.get(0, x, 0));
        }
    }

    @Says("BITS 32768 of HALF and -2147483648 of FLOAT are told as 0;")
    static void minusZeroIsToldAs0() {
        RasterForge half = Forges.with(encoded(0), 17, 0, 18, 128);
        RasterForge real = Forges.with(encoded(1), 20, 128);
        CHECKS.due("half: read", 0, half::decode);
        CHECKS.due("half: bits", 32768, () -> half.bits(0, 0, 0));
        CHECKS.due("half: told", 0.0, () -> half.get(0, 0, 0));
        CHECKS.due("half: spread", 0.0, () -> half.spread(0, 0));
        CHECKS.due("float: read", 0, real::decode);
        CHECKS.due("float: bits", -2147483648, () -> real.bits(0, 0, 0));
        CHECKS.due("float: told", 0.0, () -> real.get(0, 0, 0));
        CHECKS.due("float: spread", 0.0, () -> real.spread(0, -0.0));
        CHECKS.due("half: written again", 19, () -> half.encode(0));
        CHECKS.due("half: its upper byte", 128, () -> half.file(18));
    }

    private static RasterForge encoded(int type) {
        RasterForge f = Forges.picture(1, 1, 97, type, 1);
        f.encode(0);
        return f;
    }

    @Says("HALF BITS with e 31 and FLOAT BITS with e 255 are no numbers.")
    static void noNumbers() {
        int[] halves = {31743, 31744, 31745, 32767, 32768, 64511, 64512, 64513, 65535};
        for (int bits : halves) {
            RasterForge f = Forges.with(encoded(0), 17, bits & 255, 18, bits >> 8);
            isNumber("half " + bits, (bits & 31744) != 31744, f);
            RasterForge w = Forges.with(encoded(2), 17, bits & 255, 18, bits >> 8);
            isNumber("whole " + bits, true, w);
        }
        int[] floats = {0x7F7FFFFF, 0x7F800000, 0x7F800001, 0x7FFFFFFF, 0x80000000, 0xFF7FFFFF,
            0xFF800000, 0xFF800001, 0xFFFFFFFF};
        for (int bits : floats) {
            RasterForge f = encoded(1);
            patchFloat(f, bits);
            isNumber("float " + bits, (bits & 0x7F800000) != 0x7F800000, f);
        }
    }

    private static void isNumber(String what, boolean number, RasterForge f) {
        if (number) {
            CHECKS.due(what, 0, f::decode);
        } else {
            CHECKS.dueIllegal(what, f::decode);
            CHECKS.due(what + ": where", 14, f::where);
        }
    }
}
