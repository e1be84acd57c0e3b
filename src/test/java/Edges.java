import java.io.IOException;
import java.lang.reflect.InvocationTargetException;
import java.lang.reflect.Method;
import java.lang.reflect.Modifier;
import java.nio.file.Files;
import java.nio.file.Path;
import java.util.Arrays;
import java.util.Comparator;

/** Runs tests that each stand beside the sentence of the document that they are about. */
final class Edges {
    private static final Path DOCUMENT = Path.of("..", "shared", "DOC.md");

    private Edges() {
    }

    /** Every method without parameters is a test, and must have its sentence. */
    static void run(Class<?> tests, Checks checks) {
        String document = document();
        Method[] methods = tests.getDeclaredMethods();
        Arrays.sort(methods, Comparator.comparing(Method::getName));
        for (Method m : methods) {
            if (m.getParameterCount() == 0 && m.getReturnType() == void.class
                    && Modifier.isStatic(m.getModifiers())) {
                test(m, document, checks);
            }
        }
        checks.finish();
    }

    private static void test(Method m, String document, Checks checks) {
        Says says = m.getAnnotation(Says.class);
        String sentence = says == null ? "" : says.value();
        checks.under(m.getName() + " (" + sentence + ")");
        checks.due("the test has a sentence", false, sentence::isEmpty);
        checks.due("the document says it", true,
                () -> document.isEmpty() || document.contains(sentence));
        int before = checks.made();
        try {
            m.setAccessible(true);
            m.invoke(null);
        } catch (IllegalAccessException | InvocationTargetException e) {
            checks.due("the test ends", "well", () -> String.valueOf(e.getCause()));
        }
        checks.due("the test asks something", true, () -> checks.made() > before + 1);
    }

    /** The document with its words parted by one blank each, or nothing if it is not there. */
    private static String document() {
        try {
            return Files.readString(DOCUMENT).replaceAll("\\s+", " ");
        } catch (IOException e) {
            System.out.println("no document at " + DOCUMENT + ": the sentences are not looked up");
            return "";
        }
    }
}
