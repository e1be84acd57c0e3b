import java.io.IOException;
import java.nio.file.Files;
import java.nio.file.Path;
import java.util.List;
import java.util.TreeSet;
import java.util.regex.Matcher;
import java.util.regex.Pattern;

/** What can be read from the class's text of the rules that it keeps to, by their numbers. */
public final class LanguageTest {
    private static final Path SOURCE = Path.of("src", "main", "java", "RasterForge.java");
    private static final Pattern METHOD =
            Pattern.compile("(?m)^ +(?:[\\w\\[\\]]+ )+(\\w+)\\(([^()]*)\\)[\\w\\s,]*\\{");
    private static final Pattern WHILE = Pattern.compile("while \\(");

    private LanguageTest() {
    }

    public static void main(String[] args) throws IOException {
        Checks checks = new Checks("the language");
        String text = withoutComments(Files.readString(SOURCE));
        checks.due("the text is there", true, () -> text.contains("class RasterForge"));
        checks.due("rule 2, 6: words that it leaves out", "[]", () -> found(text,
                "->|::|\\b(finally|synchronized|assert|native|volatile)\\b|try \\("));
        checks.due("rule 3: arithmetic of the library on doubles", "[]",
                () -> found(text, "Math\\.(?!max\\(|min\\()\\w+|strictfp|Double\\.|Float\\."));
        checks.due("rule 4: other imports", "[import java.util.Arrays;]",
                () -> found(text, "import [^;]*;"));
        checks.due("rule 4: other calls of Arrays", "[Arrays.fill]",
                () -> found(text, "(?<!util\\.)Arrays\\.\\w+"));
        checks.due("rule 5: initialiser blocks", "[]", () -> found(text, "static\\s*\\{"));
        checks.due("rule 6: throws in another form", "[]", () -> found(text,
                "throw (?!new (IllegalState|IllegalArgument|IndexOutOfBounds"
                        + "|UnsupportedOperation)Exception\\(\\);)[^;]*;"));
        checks.due("rule 9: loops whose end can't be seen", "[]", () -> openLoops(text));
        checks.due("rule 11: methods", true, () -> text.split(METHOD.pattern()).length > 50);
        checks.due("rule 11: methods with many parameters", "[]", () -> wideMethods(text));
        checks.due("rule 11: methods of many lines", "[]", () -> longMethods(text));
        checks.due("rule 11: classes", true, () -> text.split("\\bclass ").length - 1 <= 12);
        checks.due("rule 12: kinds of objects that are made", kindsMade(),
                () -> found(text, "new (?!\\w+Exception)\\w+"));
        checks.finish();
    }

    /** All of them are made once, when the forge is made. */
    private static TreeSet<String> kindsMade() {
        return new TreeSet<>(List.of("new int", "new Bytes", "new Coder", "new Packer",
                "new Picture", "new Reader", "new Wavelet", "new Writer"));
    }

    private static String withoutComments(String text) {
        return text.replaceAll("(?s)/\\*.*?\\*/", "").replaceAll("//[^\n]*", "");
    }

    private static TreeSet<String> found(String text, String pattern) {
        TreeSet<String> all = new TreeSet<>();
        Matcher m = Pattern.compile(pattern).matcher(text);
        while (m.find()) {
            all.add(m.group());
        }
        return all;
    }

    /** While loops without a variable in their condition that is stepped, and only stepped. */
    private static TreeSet<String> openLoops(String text) {
        TreeSet<String> open = new TreeSet<>();
        Matcher m = WHILE.matcher(text);
        while (m.find()) {
            int bodyStart = text.indexOf('{', m.end());
            String condition = text.substring(m.end(), bodyStart);
            String body = text.substring(bodyStart, closing(text, bodyStart));
            boolean stepped = false;
            for (String name : found(condition, "\\b[a-z]\\w*\\b")) {
                stepped |= !found(body, "\\b" + name + "(\\+\\+|--| \\+= )").isEmpty()
                        && found(body, "(?<!int )\\b" + name + " = ").isEmpty();
            }
            if (!stepped) {
                open.add(condition);
            }
        }
        return open;
    }

    private static TreeSet<String> wideMethods(String text) {
        TreeSet<String> wide = new TreeSet<>();
        Matcher m = METHOD.matcher(text);
        while (m.find()) {
            if (m.group(2).split(",").length > 7) {
                wide.add(m.group(1));
            }
        }
        return wide;
    }

    private static TreeSet<String> longMethods(String text) {
        TreeSet<String> all = new TreeSet<>();
        Matcher m = METHOD.matcher(text);
        while (m.find()) {
            String body = text.substring(m.start(), closing(text, m.end() - 1));
            if (body.lines().count() > 60) {
                all.add(m.group(1));
            }
        }
        return all;
    }

    /** The place behind the brace that closes the one at a place. */
    private static int closing(String text, int open) {
        int depth = 0;
        for (int k = open; k < text.length(); k++) {
            char sign = text.charAt(k);
            depth += sign == '{' ? 1 : sign == '}' ? -1 : 0;
            if (depth == 0) {
                return k + 1;
            }
        }
        return text.length();
    }
}
