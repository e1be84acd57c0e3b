import java.util.Arrays;

/**
 * Pictures with high dynamic range in files: a picture of up to three channels, the file that is
 * made of it by one of four schemes, and a reader that tells where a file is not as said.
 */
public final class RasterForge {
    private static final int HALF = 0;
    private static final int FLOAT = 1;
    private static final int WHOLE = 2;

    private static final int PLAIN = 0;
    private static final int PACKING = 1;
    private static final int CUTTING = 2;
    private static final int WAVES = 3;

    private static final int MOST_SIDE = 8;
    private static final int MOST_SAMPLES = 64;
    private static final int MOST_CHANNELS = 3;
    private static final int MOST_STEP = 2;
    private static final int FIRST_LETTER = 97;
    private static final int LAST_LETTER = 122;
    private static final int TALL_CHUNK = 4;

    private static final int[] MAGIC = {118, 47, 49, 1};
    private static final int VERSION = 2;
    private static final int MOST_FILE = 1500;
    /** Four lines of eight samples in three channels, four bytes each. */
    private static final int MOST_RAW = 384;
    /** Runs cost at worst one byte more for each 127, and one at the end. */
    private static final int MOST_PACKED = 400;
    private static final int NO_FAULT = -2;

    private final Bytes theFile;
    private final Coder coder;
    private final Writer writer;
    private final Reader reader;
    private Picture picture;
    /** What decode reads into, so that the picture stays if a fault comes late. */
    private Picture spare;
    private int faultOffset;

    public RasterForge() {
        theFile = new Bytes(MOST_FILE);
        coder = new Coder();
        writer = new Writer();
        reader = new Reader();
        picture = new Picture();
        spare = new Picture();
        faultOffset = NO_FAULT;
        picture.startAnew(1, 1);
        picture.addChannel(FIRST_LETTER, HALF, 1);
    }

    public int begin(int width, int height) throws IllegalArgumentException {
        if (width < 1 || width > MOST_SIDE || height < 1 || height > MOST_SIDE) {
            throw new IllegalArgumentException();
        }
        picture.startAnew(width, height);
        return width * height;
    }

    public int channel(int letter, int type, int step)
            throws IllegalArgumentException, IllegalStateException {
        boolean typeFits = type >= HALF && type <= WHOLE;
        boolean stepFits = step >= 1 && step <= MOST_STEP;
        if (letter < picture.leastLetter() || letter > LAST_LETTER || !typeFits || !stepFits) {
            throw new IllegalArgumentException();
        }
        if (picture.channels >= MOST_CHANNELS) {
            throw new IllegalStateException();
        }
        picture.addChannel(letter, type, step);
        return picture.channels;
    }

    public double set(int c, int x, int y, double v)
            throws IllegalArgumentException, IndexOutOfBoundsException {
        if (!isValue(v)) {
            throw new IllegalArgumentException();
        }
        if (!picture.hasSample(c, x, y)) {
            throw new IndexOutOfBoundsException();
        }
        picture.put(c, x, y, Sample.ofValue(picture.types[c], v));
        return picture.told(c, x, y);
    }

    public double get(int c, int x, int y) throws IndexOutOfBoundsException {
        if (!picture.hasSample(c, x, y)) {
            throw new IndexOutOfBoundsException();
        }
        return picture.told(c, x, y);
    }

    public int bits(int c, int x, int y) throws IndexOutOfBoundsException {
        if (!picture.hasSample(c, x, y)) {
            throw new IndexOutOfBoundsException();
        }
        return picture.at(c, x, y);
    }

    public int encode(int scheme) throws IllegalArgumentException, IllegalStateException {
        if (scheme < PLAIN || scheme > WAVES) {
            throw new IllegalArgumentException();
        }
        if (picture.channels == 0) {
            throw new IllegalStateException();
        }
        writer.write(picture, scheme, theFile, coder);
        return theFile.length;
    }

    public int decode() throws IllegalArgumentException, UnsupportedOperationException {
        boolean good = reader.read(theFile, spare, coder);
        faultOffset = reader.fault;
        if (!good && !reader.unknown) {
            throw new IllegalArgumentException();
        }
        if (!good) {
            throw new UnsupportedOperationException();
        }
        Picture old = picture;
        picture = spare;
        spare = old;
        return reader.scheme;
    }

    public int where() {
        return faultOffset;
    }

    public int file(int k) throws IndexOutOfBoundsException {
        if (k < -1 || k >= theFile.length) {
            throw new IndexOutOfBoundsException();
        }
        return k == -1 ? theFile.length : theFile.at(k);
    }

    public int patch(int k, int b) throws IllegalArgumentException, IndexOutOfBoundsException {
        if (b < 0 || b > 255) {
            throw new IllegalArgumentException();
        }
        if (k < 0 || k > theFile.length || k >= MOST_FILE) {
            throw new IndexOutOfBoundsException();
        }
        if (k == theFile.length) {
            theFile.add(b);
            return -1;
        }
        int old = theFile.at(k);
        theFile.change(k, b);
        return old;
    }

    public int cut(int n) throws IllegalArgumentException {
        if (n < 0 || n > theFile.length) {
            throw new IllegalArgumentException();
        }
        int gone = theFile.length - n;
        theFile.length = n;
        return gone;
    }

    public int count(int what) throws IllegalArgumentException {
        int c = what % 10;
        if (what < 0 || what >= 50 || c >= MOST_CHANNELS) {
            throw new IllegalArgumentException();
        }
        switch (what) {
            case 0:
                return picture.width;
            case 1:
                return picture.height;
            case 2:
                return picture.channels;
            default:
                return c < picture.channels ? picture.fact(what / 10, c) : 0;
        }
    }

    public double spread(int c, double v)
            throws IllegalArgumentException, IndexOutOfBoundsException {
        if (!isValue(v)) {
            throw new IllegalArgumentException();
        }
        if (c < 0 || c >= picture.channels) {
            throw new IndexOutOfBoundsException();
        }
        return picture.greatestDistance(c, v);
    }

    /** Written so that what is no number fails it too. */
    private static boolean isValue(double v) {
        return v >= -1e30 && v <= 1e30;
    }

    private static int linesOfChunk(int scheme) {
        return scheme == PLAIN || scheme == PACKING ? 1 : TALL_CHUNK;
    }

    /** How many bytes a sample has in the raw (with cutting: the cut) bytes. */
    private static int bytesOfSample(int type, int scheme) {
        if (type != FLOAT) {
            return 2;
        }
        return scheme == CUTTING ? 3 : 4;
    }

    /** The rules by which values become bits, and bits are told. */
    private static final class Sample {
        private static final int HALF_ONE = 1024;
        private static final int HALF_BIAS = 25;
        private static final int HALF_TOP = 30;
        private static final int HALF_GREATEST = 31743;
        private static final int HALF_SIGN = 32768;
        private static final int HALF_EXPONENT = 31744;
        private static final int FLOAT_ONE = 8388608;
        private static final int FLOAT_BIAS = 150;
        private static final int FLOAT_TOP = 254;
        private static final int FLOAT_SIGN = -2147483648;
        private static final int FLOAT_EXPONENT = 2139095040;
        private static final int WHOLE_GREATEST = 65535;

        static int ofValue(int type, double v) {
            switch (type) {
                case HALF:
                    return ofHalf(v);
                case FLOAT:
                    return ofFloat((float) v);
                default:
                    return ofWhole((int) v);
            }
        }

        static double told(int type, int b) {
            switch (type) {
                case HALF:
                    return toldParts((b >>> 10) & 31, b & (HALF_ONE - 1), HALF_ONE, HALF_BIAS,
                            b >= HALF_SIGN);
                case FLOAT:
                    return toldParts((b >>> 23) & 255, b & (FLOAT_ONE - 1), FLOAT_ONE, FLOAT_BIAS,
                            b < 0);
                default:
                    return b;
            }
        }

        static boolean isNumber(int type, int b) {
            switch (type) {
                case HALF:
                    return (b & HALF_EXPONENT) != HALF_EXPONENT;
                case FLOAT:
                    return (b & FLOAT_EXPONENT) != FLOAT_EXPONENT;
                default:
                    return true;
            }
        }

        /** A float's bits in 24; rounding up is left out where it would make it no number. */
        static int shorten(int b) {
            int rounded = b + 128;
            return isNumber(FLOAT, rounded) ? rounded >>> 8 : b >>> 8;
        }

        private static int ofHalf(double v) {
            double size = v < 0 ? -v : v;
            int b = size >= 65520.0
                    ? HALF_GREATEST
                    : nearest(size, HALF_ONE, HALF_BIAS, HALF_TOP);
            return v < 0 && b != 0 ? b + HALF_SIGN : b;
        }

        private static int ofFloat(float v) {
            double size = v < 0 ? -v : v;
            int b = nearest(size, FLOAT_ONE, FLOAT_BIAS, FLOAT_TOP);
            return v < 0 ? b | FLOAT_SIGN : b;
        }

        private static int ofWhole(int v) {
            return Math.max(0, Math.min(v, WHOLE_GREATEST));
        }

        /**
         * The bits of the nearest (one + f) * 2^(e - bias), or f * 2^(1 - bias) where e would be
         * below 1. Doubling and halving are exact here, so only the last step rounds.
         */
        private static int nearest(double size, int one, int bias, int top) {
            int e = bias;
            double part = size;
            while (e < top && part >= 2.0 * one) {
                part = part / 2;
                e++;
            }
            while (e > 1 && part < one) {
                part = part * 2;
                e--;
            }
            int whole = (int) part;
            double rest = part - whole;
            if (rest > 0.5 || (rest == 0.5 && whole % 2 == 1)) {
                whole++;
            }
            return one * (e - 1) + whole;
        }

        private static double toldParts(int e, int f, int one, int bias, boolean below) {
            double size = e == 0 ? f : one + f;
            int power = Math.max(e, 1) - bias;
            for (int k = 0; k < power; k++) {
                size = size * 2;
            }
            for (int k = power; k < 0 && size > 0; k++) {
                size = size / 2;
            }
            return below && size > 0 ? -size : size;
        }
    }

    /** Width, height, channels and their samples. */
    private static final class Picture {
        int width;
        int height;
        int channels;
        final int[] letters = new int[MOST_CHANNELS];
        final int[] types = new int[MOST_CHANNELS];
        final int[] steps = new int[MOST_CHANNELS];
        private final int[] samples = new int[MOST_CHANNELS * MOST_SAMPLES];

        void startAnew(int newWidth, int newHeight) {
            width = newWidth;
            height = newHeight;
            channels = 0;
            Arrays.fill(samples, 0);
        }

        void addChannel(int letter, int type, int step) {
            if (channels < MOST_CHANNELS) {
                letters[channels] = letter;
                types[channels] = type;
                steps[channels] = step;
                channels++;
            }
        }

        int leastLetter() {
            return channels == 0 ? FIRST_LETTER : letters[channels - 1] + 1;
        }

        boolean hasSample(int c, int x, int y) {
            return c >= 0 && c < channels
                    && x >= 0 && x < width && isOnStep(c, x)
                    && y >= 0 && y < height && isOnStep(c, y);
        }

        boolean isOnStep(int c, int place) {
            return steps[c] == 1 || place % 2 == 0;
        }

        /** How many of so many places from an even one on are on the channel's step. */
        int onStep(int c, int places) {
            return steps[c] == 1 ? places : (places + 1) / 2;
        }

        int columns(int c) {
            return onStep(c, width);
        }

        int at(int c, int x, int y) {
            return samples[c * MOST_SAMPLES + y * MOST_SIDE + x];
        }

        void put(int c, int x, int y, int b) {
            samples[c * MOST_SAMPLES + y * MOST_SIDE + x] = b;
        }

        double told(int c, int x, int y) {
            return Sample.told(types[c], at(c, x, y));
        }

        /** What count tells of a channel: 1 letter, 2 type, 3 step, 4 how many samples. */
        int fact(int which, int c) {
            switch (which) {
                case 1:
                    return letters[c];
                case 2:
                    return types[c];
                case 3:
                    return steps[c];
                default:
                    return columns(c) * onStep(c, height);
            }
        }

        double greatestDistance(int c, double v) {
            double greatest = 0;
            for (int y = 0; y < height; y++) {
                for (int x = 0; x < width; x++) {
                    if (hasSample(c, x, y)) {
                        double apart = told(c, x, y) - v;
                        double size = apart < 0 ? -apart : apart;
                        greatest = size > greatest ? size : greatest;
                    }
                }
            }
            return greatest;
        }

        /** The line behind the last one of the chunk that begins at a line. */
        int endOfChunk(int first, int scheme) {
            return Math.min(first + linesOfChunk(scheme), height);
        }

        int chunks(int scheme) {
            return linesOfChunk(scheme) == 1 ? height : (height + TALL_CHUNK - 1) / TALL_CHUNK;
        }

        int rawSize(int first, int scheme) {
            int size = 0;
            int end = endOfChunk(first, scheme);
            for (int y = first; y < end; y++) {
                for (int c = 0; c < channels; c++) {
                    if (isOnStep(c, y)) {
                        size += columns(c) * bytesOfSample(types[c], scheme);
                    }
                }
            }
            return size;
        }

        boolean holdsNumbers(int first, int scheme) {
            int end = endOfChunk(first, scheme);
            for (int y = first; y < end; y++) {
                for (int c = 0; c < channels; c++) {
                    for (int x = 0; x < width; x++) {
                        if (hasSample(c, x, y) && !Sample.isNumber(types[c], at(c, x, y))) {
                            return false;
                        }
                    }
                }
            }
            return true;
        }
    }

    /** A row of bytes that grows at its end and is read from its beginning. */
    private static final class Bytes {
        private final int[] cells;
        int length;
        private int cursor;

        Bytes(int most) {
            cells = new int[most];
        }

        void clear() {
            length = 0;
            cursor = 0;
        }

        void add(int b) {
            if (length < cells.length) {
                cells[length] = b & 255;
                length++;
            }
        }

        /** The lowest byte first. */
        void addNumber(int number, int bytes) {
            for (int k = 0; k < bytes; k++) {
                add(number >>> (8 * k));
            }
        }

        void addPart(Bytes from, int start, int end) {
            for (int k = start; k < end; k++) {
                add(from.at(k));
            }
        }

        int at(int k) {
            return k >= 0 && k < length ? cells[k] : 0;
        }

        void change(int k, int b) {
            if (k >= 0 && k < length) {
                cells[k] = b & 255;
            }
        }

        int twoAt(int k) {
            return at(k) + 256 * at(k + 1);
        }

        int nextNumber(int bytes) {
            int number = 0;
            for (int k = 0; k < bytes; k++) {
                if (cursor < length) {
                    number |= cells[cursor] << (8 * k);
                    cursor++;
                }
            }
            return number;
        }
    }

    /** Bytes sorted by even and odd places, as differences, in runs; and back. */
    private static final class Packer {
        private static final int LEAST_ALIKE = 3;
        private static final int MOST_ALIKE = 128;
        private static final int MOST_UNLIKE = 127;

        private final Bytes sorted = new Bytes(MOST_RAW);

        void pack(Bytes from, Bytes to) {
            sort(from);
            for (int k = sorted.length - 1; k > 0; k--) {
                sorted.change(k, sorted.at(k) - sorted.at(k - 1) + 128);
            }
            to.clear();
            int place = 0;
            // A run packs a byte or more, so there are no more runs than bytes.
            for (int run = 0; run < MOST_RAW && place < sorted.length; run++) {
                int alike = alikeFrom(place);
                if (alike >= LEAST_ALIKE) {
                    to.add(alike - 1);
                    to.add(sorted.at(place));
                    place += alike;
                } else {
                    int end = endOfUnlike(place);
                    to.add(256 - (end - place));
                    to.addPart(sorted, place, end);
                    place = end;
                }
            }
        }

        /** The offset of the run that goes too far or, if the runs make too little, the end. */
        int unpack(Bytes from, int start, int end, int wanted, Bytes to) {
            sorted.clear();
            int place = start;
            while (place < end) {
                int head = from.at(place);
                int makes = head < 128 ? head + 1 : 256 - head;
                int takes = head < 128 ? 2 : 1 + makes;
                if (place + takes > end || sorted.length + makes > wanted) {
                    return place;
                }
                for (int k = 0; k < makes; k++) {
                    sorted.add(from.at(head < 128 ? place + 1 : place + 1 + k));
                }
                place += takes;
            }
            if (sorted.length < wanted) {
                return end;
            }
            unsort(to);
            return NO_FAULT;
        }

        private void sort(Bytes from) {
            sorted.clear();
            for (int k = 0; k < from.length; k += 2) {
                sorted.add(from.at(k));
            }
            for (int k = 1; k < from.length; k += 2) {
                sorted.add(from.at(k));
            }
        }

        private void unsort(Bytes to) {
            for (int k = 1; k < sorted.length; k++) {
                sorted.change(k, sorted.at(k) + sorted.at(k - 1) - 128);
            }
            to.clear();
            int evens = (sorted.length + 1) / 2;
            for (int k = 0; k < sorted.length; k++) {
                to.add(sorted.at(k % 2 == 0 ? k / 2 : evens + k / 2));
            }
        }

        private int alikeFrom(int place) {
            int end = place + 1;
            while (end < sorted.length && end - place < MOST_ALIKE
                    && sorted.at(end) == sorted.at(place)) {
                end++;
            }
            return end - place;
        }

        private int endOfUnlike(int place) {
            int end = place + 1;
            while (end < sorted.length && end - place < MOST_UNLIKE
                    && alikeFrom(end) < LEAST_ALIKE) {
                end++;
            }
            return end;
        }
    }

    /** A table of numbers of 16 bits that goes through the wavelet, and back. */
    private static final class Wavelet {
        private static final int MASK = 65535;
        private static final int MIDDLE = 32768;

        private final int[] cells = new int[MOST_SIDE * TALL_CHUNK];

        int at(int column, int row) {
            return cells[row * MOST_SIDE + column];
        }

        void put(int column, int row, int number) {
            cells[row * MOST_SIDE + column] = number & MASK;
        }

        void forward(int columns, int rows) {
            for (int p = 1; 2 * p <= Math.min(columns, rows); p *= 2) {
                for (int y = 0; y + p < rows; y += 2 * p) {
                    for (int x = 0; x + p < columns; x += 2 * p) {
                        int a = y * MOST_SIDE + x;
                        int c = a + p * MOST_SIDE;
                        mix(a, a + p);
                        mix(c, c + p);
                        mix(a, c);
                        mix(a + p, c + p);
                    }
                }
            }
        }

        void backward(int columns, int rows) {
            for (int p = TALL_CHUNK; p >= 1; p /= 2) {
                boolean used = 2 * p <= Math.min(columns, rows);
                for (int y = 0; used && y + p < rows; y += 2 * p) {
                    for (int x = 0; x + p < columns; x += 2 * p) {
                        int a = y * MOST_SIDE + x;
                        int c = a + p * MOST_SIDE;
                        unmix(a, c);
                        unmix(a + p, c + p);
                        unmix(a, a + p);
                        unmix(c, c + p);
                    }
                }
            }
        }

        private void mix(int u, int v) {
            int other = (cells[u] + MIDDLE) & MASK;
            int mean = (other + cells[v]) / 2;
            int apart = other - cells[v];
            cells[u] = apart < 0 ? (mean + MIDDLE) & MASK : mean;
            cells[v] = apart & MASK;
        }

        private void unmix(int m, int w) {
            int second = (cells[m] - cells[w] / 2) & MASK;
            int first = (cells[w] + second - MIDDLE) & MASK;
            cells[m] = first;
            cells[w] = second;
        }
    }

    /** What stands in a chunk behind its size: samples as bytes by each scheme, and back. */
    private static final class Coder {
        private final Bytes raw = new Bytes(MOST_RAW);
        private final Bytes packed = new Bytes(MOST_PACKED);
        private final Packer packer = new Packer();
        private final Wavelet table = new Wavelet();

        /** The bytes of the chunk; they are good until the next call. */
        Bytes make(Picture from, int scheme, int first) {
            if (scheme == WAVES) {
                putTables(from, first);
            } else {
                putLines(from, scheme, first, scheme == CUTTING);
            }
            if (scheme == PLAIN) {
                return raw;
            }
            packer.pack(raw, packed);
            if (packed.length < raw.length) {
                return packed;
            }
            putLines(from, scheme, first, false);
            return raw;
        }

        /** Makes the bytes of a chunk ready, packed ones if they are fewer: where they fail. */
        int makeReady(Bytes from, int start, int end, int wanted) {
            if (end - start < wanted) {
                return packer.unpack(from, start, end, wanted, raw);
            }
            raw.clear();
            raw.addPart(from, start, end);
            return NO_FAULT;
        }

        /** Takes the samples of the bytes that are ready. */
        void takeReady(Picture to, int scheme, int first, boolean werePacked) {
            if (werePacked && scheme == WAVES) {
                takeTables(to, first);
            } else {
                takeLines(to, scheme, first, werePacked && scheme == CUTTING);
            }
        }

        private void putLines(Picture from, int scheme, int first, boolean differences) {
            raw.clear();
            int end = from.endOfChunk(first, scheme);
            for (int y = first; y < end; y++) {
                for (int c = 0; c < from.channels; c++) {
                    if (from.isOnStep(c, y)) {
                        putLine(from, c, y, scheme, differences);
                    }
                }
            }
        }

        private void putLine(Picture from, int c, int y, int scheme, boolean differences) {
            int bytes = bytesOfSample(from.types[c], scheme);
            int columns = from.columns(c);
            int before = 0;
            for (int k = 0; k < columns; k++) {
                int b = from.at(c, k * from.steps[c], y);
                int number = bytes == 3 ? Sample.shorten(b) : b;
                // Only the lower bytes are written, which is the difference's modulus.
                raw.addNumber(differences ? number - before : number, bytes);
                before = number;
            }
        }

        private void takeLines(Picture to, int scheme, int first, boolean differences) {
            int end = to.endOfChunk(first, scheme);
            for (int y = first; y < end; y++) {
                for (int c = 0; c < to.channels; c++) {
                    if (to.isOnStep(c, y)) {
                        takeLine(to, c, y, scheme, differences);
                    }
                }
            }
        }

        private void takeLine(Picture to, int c, int y, int scheme, boolean differences) {
            int bytes = bytesOfSample(to.types[c], scheme);
            int columns = to.columns(c);
            int before = 0;
            for (int k = 0; k < columns; k++) {
                int number = raw.nextNumber(bytes) + (differences ? before : 0);
                before = number;
                if (bytes == 2) {
                    number &= 65535;
                } else if (bytes == 3) {
                    number <<= 8;
                }
                to.put(c, k * to.steps[c], y, number);
            }
        }

        private void putTables(Picture from, int first) {
            raw.clear();
            for (int c = 0; c < from.channels; c++) {
                putTable(from, c, first, 0);
                if (from.types[c] == FLOAT) {
                    putTable(from, c, first, 16);
                }
            }
        }

        /** Writes the 16 bits of each sample that begin at a shift. */
        private void putTable(Picture from, int c, int first, int shift) {
            int columns = from.columns(c);
            int rows = from.onStep(c, from.endOfChunk(first, WAVES) - first);
            int step = from.steps[c];
            for (int row = 0; row < rows; row++) {
                for (int k = 0; k < columns; k++) {
                    table.put(k, row, from.at(c, k * step, first + row * step) >>> shift);
                }
            }
            table.forward(columns, rows);
            for (int row = 0; row < rows; row++) {
                for (int k = 0; k < columns; k++) {
                    raw.addNumber(table.at(k, row), 2);
                }
            }
        }

        private void takeTables(Picture to, int first) {
            for (int c = 0; c < to.channels; c++) {
                takeTable(to, c, first, 0);
                if (to.types[c] == FLOAT) {
                    takeTable(to, c, first, 16);
                }
            }
        }

        /** Adds 16 bits at a shift to each sample, which has none there yet. */
        private void takeTable(Picture to, int c, int first, int shift) {
            int columns = to.columns(c);
            int rows = to.onStep(c, to.endOfChunk(first, WAVES) - first);
            int step = to.steps[c];
            for (int row = 0; row < rows; row++) {
                for (int k = 0; k < columns; k++) {
                    table.put(k, row, raw.nextNumber(2));
                }
            }
            table.backward(columns, rows);
            for (int row = 0; row < rows; row++) {
                for (int k = 0; k < columns; k++) {
                    int y = first + row * step;
                    to.put(c, k * step, y, to.at(c, k * step, y) | (table.at(k, row) << shift));
                }
            }
        }
    }

    /** Makes a file of a picture. */
    private static final class Writer {
        void write(Picture from, int scheme, Bytes to, Coder coder) {
            to.clear();
            writeHead(from, scheme, to);
            int chunks = from.chunks(scheme);
            int table = to.length;
            // The offsets are known only when the chunks are written.
            to.addNumber(0, 2 * chunks);
            for (int k = 0; k < chunks; k++) {
                to.change(table + 2 * k, to.length);
                to.change(table + 2 * k + 1, to.length >>> 8);
                int first = k * linesOfChunk(scheme);
                Bytes made = coder.make(from, scheme, first);
                to.add(first);
                to.addNumber(made.length, 2);
                to.addPart(made, 0, made.length);
            }
        }

        private void writeHead(Picture from, int scheme, Bytes to) {
            for (int k = 0; k < MAGIC.length; k++) {
                to.add(MAGIC[k]);
            }
            to.add(VERSION);
            to.add(from.width);
            to.add(from.height);
            to.add(scheme);
            to.add(from.channels);
            for (int c = 0; c < from.channels; c++) {
                to.add(from.letters[c]);
                to.add(from.types[c]);
                to.add(from.steps[c]);
            }
        }
    }

    /** Makes a picture of a file, or tells where the file is not as said. */
    private static final class Reader {
        int fault = NO_FAULT;
        boolean unknown;
        int scheme;
        /** Empty until the first reading gives it a file. */
        private Bytes source = new Bytes(0);
        private int place;

        /** Whether there is no fault; with one, the picture is left half made. */
        boolean read(Bytes from, Picture to, Coder coder) {
            source = from;
            place = 0;
            fault = NO_FAULT;
            unknown = false;
            if (!readHead(to) || !readChannels(to) || !readTable(to)) {
                return false;
            }
            int chunks = to.chunks(scheme);
            for (int k = 0; k < chunks; k++) {
                if (!readChunk(k * linesOfChunk(scheme), to, coder)) {
                    return false;
                }
            }
            return place == source.length || failsAt(place);
        }

        private boolean readHead(Picture to) {
            for (int k = 0; k < MAGIC.length; k++) {
                if (!nextIs(MAGIC[k], MAGIC[k])) {
                    return false;
                }
            }
            if (!nextIsKnown(VERSION, VERSION)
                    || !nextIs(1, MOST_SIDE) || !nextIs(1, MOST_SIDE)
                    || !nextIsKnown(PLAIN, WAVES)) {
                return false;
            }
            to.startAnew(source.at(place - 3), source.at(place - 2));
            scheme = source.at(place - 1);
            return true;
        }

        private boolean readChannels(Picture to) {
            if (!nextIs(1, MOST_CHANNELS)) {
                return false;
            }
            int channels = source.at(place - 1);
            for (int c = 0; c < channels; c++) {
                if (!nextIs(to.leastLetter(), LAST_LETTER)
                        || !nextIs(HALF, WHOLE) || !nextIs(1, MOST_STEP)) {
                    return false;
                }
                to.addChannel(source.at(place - 3), source.at(place - 2), source.at(place - 1));
            }
            return true;
        }

        private boolean readTable(Picture to) {
            int chunks = to.chunks(scheme);
            int due = place + 2 * chunks;
            for (int k = 0; k < chunks; k++) {
                if (lacks(2)) {
                    return false;
                }
                if (due >= 0 && source.twoAt(place) != due) {
                    return failsAt(place);
                }
                due = due < 0 ? due : behindChunk(due);
                place += 2;
            }
            return true;
        }

        /**
         * The offset behind the chunk that begins at one, -1 if it is not wholly there. A size
         * that is missing reads as 0, and the end lies behind the file all the same.
         */
        private int behindChunk(int start) {
            int end = start + 3 + source.twoAt(start + 1);
            return end > source.length ? -1 : end;
        }

        private boolean readChunk(int first, Picture to, Coder coder) {
            int start = place;
            if (!nextIs(first, first) || lacks(2)) {
                return false;
            }
            int size = source.twoAt(place);
            int wanted = to.rawSize(first, scheme);
            if (size > wanted || (scheme == PLAIN && size < wanted)) {
                return failsAt(place);
            }
            place += 2;
            if (lacks(size)) {
                return false;
            }
            int bad = coder.makeReady(source, place, place + size, wanted);
            if (bad != NO_FAULT) {
                return failsAt(bad);
            }
            place += size;
            coder.takeReady(to, scheme, first, size < wanted);
            return to.holdsNumbers(first, scheme) || failsAt(start);
        }

        /** Goes behind the next byte if it lies between two bounds, else it is a fault. */
        private boolean nextIs(int least, int most) {
            if (lacks(1)) {
                return false;
            }
            int b = source.at(place);
            if (b < least || b > most) {
                return failsAt(place);
            }
            place++;
            return true;
        }

        /** Like nextIs, but another byte is unknown and not wrong; a missing one is wrong. */
        private boolean nextIsKnown(int least, int most) {
            boolean there = place < source.length;
            boolean good = nextIs(least, most);
            unknown = there && !good;
            return good;
        }

        /** Whether so many bytes are not there, which is a fault behind the last one. */
        private boolean lacks(int bytes) {
            if (place + bytes <= source.length) {
                return false;
            }
            fault = source.length;
            return true;
        }

        /** Answers false always, so that a reading step can end with it. */
        private boolean failsAt(int offset) {
            fault = offset;
            return false;
        }
    }
}
