import java.util.ArrayDeque;
import java.util.Deque;

/** A RasterForge and a Model that get the same calls and must answer alike. */
final class Pair {
    private static final int MOST_CALLS = 512;

    private final Checks checks;
    private final String name;
    private final RasterForge forge = new RasterForge();
    private final Model model = new Model();
    private final Deque<String> latest = new ArrayDeque<>();
    private int calls;
    private boolean good = true;

    Pair(Checks checks, String name) {
        this.checks = checks;
        this.name = name;
    }

    /** How many calls the document still allows; none once an answer was wrong. */
    int left() {
        return good ? MOST_CALLS - calls : 0;
    }

    private void both(String call, Checks.Call ofForge, Checks.Call ofModel) {
        if (left() <= 0) {
            return;
        }
        calls++;
        if (latest.size() == 8) {
            latest.removeFirst();
        }
        latest.addLast(call);
        good = checks.due(name + " call " + calls + " of .. " + String.join("; ", latest),
                Checks.told(ofModel), ofForge);
    }

    void begin(int w, int h) {
        both("begin(" + w + ", " + h + ")", () -> forge.begin(w, h), () -> model.begin(w, h));
    }

    void channel(int letter, int type, int step) {
        both("channel(" + letter + ", " + type + ", " + step + ")",
                () -> forge.channel(letter, type, step), () -> model.channel(letter, type, step));
    }

    void set(int c, int x, int y, double v) {
        both("set(" + c + ", " + x + ", " + y + ", " + v + ")",
                () -> forge.set(c, x, y, v), () -> model.set(c, x, y, v));
    }

    void get(int c, int x, int y) {
        both("get(" + c + ", " + x + ", " + y + ")",
                () -> forge.get(c, x, y), () -> model.get(c, x, y));
    }

    void bits(int c, int x, int y) {
        both("bits(" + c + ", " + x + ", " + y + ")",
                () -> forge.bits(c, x, y), () -> model.bits(c, x, y));
    }

    void encode(int scheme) {
        both("encode(" + scheme + ")", () -> forge.encode(scheme), () -> model.encode(scheme));
    }

    void decode() {
        both("decode()", forge::decode, model::decode);
    }

    void where() {
        both("where()", forge::where, model::where);
    }

    void file(int k) {
        both("file(" + k + ")", () -> forge.file(k), () -> model.file(k));
    }

    void patch(int k, int b) {
        both("patch(" + k + ", " + b + ")", () -> forge.patch(k, b), () -> model.patch(k, b));
    }

    void cut(int n) {
        both("cut(" + n + ")", () -> forge.cut(n), () -> model.cut(n));
    }

    void count(int what) {
        both("count(" + what + ")", () -> forge.count(what), () -> model.count(what));
    }

    void spread(int c, double v) {
        both("spread(" + c + ", " + v + ")", () -> forge.spread(c, v), () -> model.spread(c, v));
    }

    /** What the model says; asking it is no call. */
    int fileLength() {
        return model.file(-1);
    }

    int fileByte(int k) {
        return model.file(k);
    }

    int width() {
        return model.count(0);
    }

    int height() {
        return model.count(1);
    }

    int channels() {
        return model.count(2);
    }

    int step(int c) {
        return model.count(30 + c);
    }

    int lastLetter() {
        return channels() == 0 ? 'a' - 1 : model.count(9 + channels());
    }
}
