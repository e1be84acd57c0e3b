import java.util.StringJoiner;

/** Objects in a state that tests begin with, and what can be seen of one. */
final class Forges {
    static final int HALF = 0;
    static final int FLOAT = 1;
    static final int WHOLE = 2;

    private Forges() {
    }

    /** A picture with channels told as letter, type, step, and again. */
    static RasterForge picture(int width, int height, int... channels) {
        RasterForge f = new RasterForge();
        f.begin(width, height);
        for (int k = 0; k < channels.length; k += 3) {
            f.channel(channels[k], channels[k + 1], channels[k + 2]);
        }
        return f;
    }

    /** Patches bytes told as place, byte, and again. */
    static RasterForge with(RasterForge f, int... patches) {
        for (int k = 0; k < patches.length; k += 2) {
            f.patch(patches[k], patches[k + 1]);
        }
        return f;
    }

    /** Adds bytes behind those that are there. */
    static RasterForge adding(RasterForge f, int... bytes) {
        int length = f.file(-1);
        for (int k = 0; k < bytes.length; k++) {
            f.patch(length + k, bytes[k]);
        }
        return f;
    }

    static RasterForge cutTo(RasterForge f, int n) {
        f.cut(n);
        return f;
    }

    /** The bytes of the file from one on, as a text. */
    static String bytesFrom(RasterForge f, int start) {
        StringJoiner text = new StringJoiner(" ");
        int length = f.file(-1);
        for (int k = start; k < length; k++) {
            text.add(String.valueOf(f.file(k)));
        }
        return text.toString();
    }

    /** All bits of a channel line by line, as a text. */
    static String bitsOf(RasterForge f, int c) {
        StringJoiner text = new StringJoiner(" ");
        // A step that is wrong must fail a test and not keep it from ending.
        int step = Math.max(1, f.count(30 + c));
        int width = f.count(0);
        int height = f.count(1);
        for (int y = 0; y < height; y += step) {
            for (int x = 0; x < width; x += step) {
                text.add(String.valueOf(f.bits(c, x, y)));
            }
        }
        return text.toString();
    }

    /** All that can be seen but where(); some 30 calls, and one for each sample and byte. */
    static String stateOf(RasterForge f) {
        StringJoiner text = new StringJoiner(" ");
        int[] facts = {0, 1, 2, 10, 11, 12, 20, 21, 22, 30, 31, 32, 40, 41, 42};
        for (int what : facts) {
            text.add(String.valueOf(f.count(what)));
        }
        for (int c = 0; c < f.count(2); c++) {
            text.add("|").add(bitsOf(f, c));
        }
        return text.add("|").add(bytesFrom(f, 0)).toString();
    }
}
