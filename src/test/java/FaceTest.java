import java.lang.reflect.Field;
import java.lang.reflect.Method;
import java.lang.reflect.Modifier;
import java.util.Arrays;
import java.util.TreeSet;

/** The class shows what the document's face shows, and nothing more. */
public final class FaceTest {
    private static final String[] FACE = {
        "int begin(int, int) IllegalArgumentException",
        "int channel(int, int, int) IllegalArgumentException IllegalStateException",
        "double set(int, int, int, double) IllegalArgumentException IndexOutOfBoundsException",
        "double get(int, int, int) IndexOutOfBoundsException",
        "int bits(int, int, int) IndexOutOfBoundsException",
        "int encode(int) IllegalArgumentException IllegalStateException",
        "int decode() IllegalArgumentException UnsupportedOperationException",
        "int where()",
        "int file(int) IndexOutOfBoundsException",
        "int patch(int, int) IllegalArgumentException IndexOutOfBoundsException",
        "int cut(int) IllegalArgumentException",
        "int count(int) IllegalArgumentException",
        "double spread(int, double) IllegalArgumentException IndexOutOfBoundsException",
    };

    public static void main(String[] args) {
        Checks checks = new Checks("the face");
        Class<?> face = RasterForge.class;
        checks.due("public and final", Modifier.PUBLIC | Modifier.FINAL, face::getModifiers);
        checks.due("constructors", "[public RasterForge()]",
                () -> Arrays.toString(face.getDeclaredConstructors()));
        checks.due("methods", new TreeSet<>(Arrays.asList(FACE)), () -> visibleMethods(face));
        checks.due("visible fields", "[]", () -> visibleFields(face));
        checks.due("static fields that are not final", "[]", () -> looseStatics(face));
        checks.due("nested classes that are not static", "[]", () -> innerClasses(face));
        checks.due("hidden methods with a name of the face", "[]", () -> borrowedNames(face));
        checks.finish();
    }

    private static TreeSet<String> visibleMethods(Class<?> face) {
        TreeSet<String> found = new TreeSet<>();
        for (Method m : face.getDeclaredMethods()) {
            if (!Modifier.isPrivate(m.getModifiers()) && !m.isSynthetic()) {
                found.add(told(m));
            }
        }
        return found;
    }

    private static String told(Method m) {
        StringBuilder text = new StringBuilder();
        if (!Modifier.isPublic(m.getModifiers())) {
            text.append("hidden ");
        }
        text.append(m.getReturnType()).append(' ').append(m.getName()).append('(');
        Class<?>[] takes = m.getParameterTypes();
        for (int k = 0; k < takes.length; k++) {
            text.append(k == 0 ? "" : ", ").append(takes[k]);
        }
        text.append(')');
        for (Class<?> e : m.getExceptionTypes()) {
            text.append(' ').append(e.getSimpleName());
        }
        return text.toString();
    }

    private static TreeSet<String> visibleFields(Class<?> face) {
        TreeSet<String> found = new TreeSet<>();
        for (Field f : face.getDeclaredFields()) {
            if (!Modifier.isPrivate(f.getModifiers()) && !f.isSynthetic()) {
                found.add(f.getName());
            }
        }
        return found;
    }

    private static TreeSet<String> looseStatics(Class<?> face) {
        TreeSet<String> found = new TreeSet<>();
        for (Field f : face.getDeclaredFields()) {
            if (Modifier.isStatic(f.getModifiers()) && !Modifier.isFinal(f.getModifiers())) {
                found.add(f.getName());
            }
        }
        for (Class<?> inner : face.getDeclaredClasses()) {
            found.addAll(looseStatics(inner));
        }
        return found;
    }

    private static TreeSet<String> borrowedNames(Class<?> face) {
        TreeSet<String> names = new TreeSet<>();
        for (String method : FACE) {
            names.add(method.substring(method.indexOf(' ') + 1, method.indexOf('(')));
        }
        TreeSet<String> found = new TreeSet<>();
        for (Method m : face.getDeclaredMethods()) {
            if (!Modifier.isPublic(m.getModifiers()) && names.contains(m.getName())) {
                found.add(m.getName());
            }
        }
        for (Class<?> inner : face.getDeclaredClasses()) {
            for (Method m : inner.getDeclaredMethods()) {
                if (names.contains(m.getName())) {
                    found.add(inner.getSimpleName() + "." + m.getName());
                }
            }
        }
        return found;
    }

    private static TreeSet<String> innerClasses(Class<?> face) {
        TreeSet<String> found = new TreeSet<>();
        for (Class<?> inner : face.getDeclaredClasses()) {
            if (!Modifier.isStatic(inner.getModifiers())) {
                found.add(inner.getSimpleName());
            }
        }
        return found;
    }
}
