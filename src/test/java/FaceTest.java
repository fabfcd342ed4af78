import java.lang.reflect.Constructor;
import java.lang.reflect.Field;
import java.lang.reflect.Method;
import java.lang.reflect.Modifier;
import java.util.Set;
import java.util.TreeSet;

/** The class has the face of the document and no other member that can be seen. */
public final class FaceTest {
    private static final Set<String> FACE = Set.of(
        "int fold(int, long, long) throws IllegalArgumentException, IllegalStateException",
        "int failsAt(int, long) throws IndexOutOfBoundsException, IllegalStateException",
        "int rule(int, int) throws IllegalArgumentException",
        "int row(long, long, long) throws IllegalArgumentException, IllegalStateException",
        "void resume(long) throws IllegalStateException",
        "long state(long, int) throws IndexOutOfBoundsException",
        "int key(long, int) throws IllegalArgumentException",
        "long rowOf(long, int, int) throws IndexOutOfBoundsException",
        "long aside(int, int) throws IndexOutOfBoundsException",
        "long output(int, int) throws IndexOutOfBoundsException",
        "long watermark() throws IllegalStateException",
        "int told(int) throws IllegalArgumentException",
        "boolean folded(long) throws IndexOutOfBoundsException",
        "boolean joined(int) throws IndexOutOfBoundsException");

    public static void main(String[] args) {
        Checks checks = new Checks();
        Class<?> face = KeyedFolds.class;
        checks.same("public final", Modifier.PUBLIC | Modifier.FINAL, face.getModifiers());
        Set<String> seen = new TreeSet<>();
        for (Method method : face.getDeclaredMethods()) {
            if (!Modifier.isPrivate(method.getModifiers())) {
                seen.add(written(method));
                checks.same("public " + method.getName(), Modifier.PUBLIC, method.getModifiers());
            } else {
                checks.same("private, of a public one's name: " + method.getName(), false, isNameInFace(method));
            }
        }
        checks.same("methods", new TreeSet<>(FACE), seen);
        for (Field field : face.getDeclaredFields()) {
            checks.same("private " + field.getName(), true, Modifier.isPrivate(field.getModifiers()));
        }
        checks.same("constructors", 1, face.getDeclaredConstructors().length);
        for (Constructor<?> made : face.getDeclaredConstructors()) {
            checks.same("constructor", "public KeyedFolds(int,int,int,int)", made.toString());
        }
        for (Class<?> inside : face.getDeclaredClasses()) {
            checks.same("static " + inside.getName(), true, Modifier.isStatic(inside.getModifiers()));
        }
        checks.end();
    }

    private static boolean isNameInFace(Method method) {
        return FACE.stream().anyMatch(call -> call.contains(" " + method.getName() + "("));
    }

    private static String written(Method method) {
        return method.getReturnType().getName() + " " + method.getName() + "(" + names(method.getParameterTypes())
            + ") throws " + names(method.getExceptionTypes());
    }

    private static String names(Class<?>[] types) {
        StringBuilder text = new StringBuilder();
        for (Class<?> type : types) {
            text.append(text.length() == 0 ? "" : ", ").append(type.getSimpleName());
        }
        return text.toString();
    }
}
