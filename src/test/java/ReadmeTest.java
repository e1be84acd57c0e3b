import java.io.ByteArrayOutputStream;
import java.io.IOException;
import java.io.PrintStream;
import java.lang.reflect.Method;
import java.lang.reflect.Modifier;
import java.net.URL;
import java.net.URLClassLoader;
import java.nio.charset.StandardCharsets;
import java.nio.file.Files;
import java.nio.file.Path;
import java.util.regex.Matcher;
import java.util.regex.Pattern;
import javax.tools.ToolProvider;

/** What README.md says of the use of the class is so. */
public final class ReadmeTest {
    private ReadmeTest() {
    }

    public static void main(String[] args) throws IOException {
        Checks checks = new Checks("the readme");
        String readme = Files.readString(Path.of("README.md"));
        checks.due("what the example prints", block(readme, "text"),
                () -> printedBy(block(readme, "java")));
        for (Method m : RasterForge.class.getDeclaredMethods()) {
            if (Modifier.isPublic(m.getModifiers())) {
                checks.due("a row for " + m.getName(), throwsOf(m), () -> rowOf(readme, m));
            }
        }
        checks.finish();
    }

    /** What stands in the first block of a kind. */
    private static String block(String readme, String kind) {
        Matcher m = Pattern.compile("(?s)```" + kind + "\n(.*?)```").matcher(readme);
        return m.find() ? m.group(1) : "no block of " + kind;
    }

    /** The last field of a method's row in the table of calls. */
    private static String rowOf(String readme, Method m) {
        String field = "(?m)^\\| `" + m.getName() + "\\((.*?)\\)` \\|[^|]*\\|([^|]*)\\|$";
        Matcher row = Pattern.compile(field).matcher(readme);
        if (!row.find()) {
            return "no row";
        }
        int takes = row.group(1).isEmpty() ? 0 : row.group(1).split(",").length;
        return takes == m.getParameterCount() ? row.group(2).trim() : takes + " parameters";
    }

    private static String throwsOf(Method m) {
        StringBuilder text = new StringBuilder();
        for (Class<?> e : m.getExceptionTypes()) {
            text.append(text.length() == 0 ? "" : ", ").append(letterOf(e.getSimpleName()));
        }
        return text.toString();
    }

    private static char letterOf(String exception) {
        return exception.equals("IllegalStateException") ? 'S'
                : exception.equals("IllegalArgumentException") ? 'A' : exception.charAt(0);
    }

    private static String printedBy(String program) {
        PrintStream before = System.out;
        ByteArrayOutputStream printed = new ByteArrayOutputStream();
        try {
            Path room = Files.createTempDirectory("readme");
            Path source = Files.writeString(room.resolve("Example.java"), program);
            // The last one that is named goes first, so that the room is empty then.
            room.toFile().deleteOnExit();
            source.toFile().deleteOnExit();
            room.resolve("Example.class").toFile().deleteOnExit();
            int code = ToolProvider.getSystemJavaCompiler().run(null, null, null, "-cp",
                    System.getProperty("java.class.path"), "-d", room.toString(),
                    source.toString());
            if (code != 0) {
                return "it does not compile";
            }
            System.setOut(new PrintStream(printed, true, StandardCharsets.UTF_8));
            try (URLClassLoader loader = new URLClassLoader(new URL[] {room.toUri().toURL()})) {
                loader.loadClass("Example").getMethod("main", String[].class)
                        .invoke(null, (Object) new String[0]);
            }
            return printed.toString(StandardCharsets.UTF_8).replace("\r\n", "\n");
        } catch (IOException | ReflectiveOperationException e) {
            return "it ends with " + e;
        } finally {
            System.setOut(before);
        }
    }
}
