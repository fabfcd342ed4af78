import java.lang.reflect.Constructor;
import java.lang.reflect.Field;
import java.lang.reflect.Method;
import java.lang.reflect.Modifier;
import java.util.Set;
import java.util.TreeSet;

/** The class has the face of the document and no other member that can be seen. */
public final class FaceTest {
    private static final Set<String> FACE = Set.of(
        "int fold(int, long, long)", "int failsAt(int, long)", "int rule(int, int)", "int row(long, long, long)",
        "void resume(long)", "long state(long, int)", "int key(long, int)", "long rowOf(long, int, int)",
        "long aside(int, int)", "long output(int, int)", "long watermark()", "int told(int)",
        "boolean folded(long)", "boolean joined(int)");

    public static void main(String[] args) {
        Checks checks = new Checks();
        Class<?> face = KeyedFolds.class;
        checks.same("public final", Modifier.PUBLIC | Modifier.FINAL, face.getModifiers());
        Set<String> seen = new TreeSet<>();
        for (Method method : face.getDeclaredMethods()) {
            if (!Modifier.isPrivate(method.getModifiers())) {
                seen.add(written(method));
            }
        }
        checks.same("methods", new TreeSet<>(FACE), seen);
        for (Field field : face.getDeclaredFields()) {
            checks.same("private " + field.getName(), true, Modifier.isPrivate(field.getModifiers()));
        }
        checks.same("constructors", 1, face.getDeclaredConstructors().length);
        for (Constructor<?> made : face.getDeclaredConstructors()) {
            checks.same("constructor", "public KeyedFolds(int,int,int,int)", made.toString());
        }
        for (Class<?> inside : face.getDeclaredClasses()) {
            checks.same("static " + inside.getName(), true, Modifier.isStatic(inside.getModifiers()));
        }
        checks.end();
    }

    private static String written(Method method) {
        StringBuilder text = new StringBuilder();
        for (Class<?> type : method.getParameterTypes()) {
            text.append(text.length() == 0 ? "" : ", ").append(type.getName());
        }
        return method.getReturnType().getName() + " " + method.getName() + "(" + text + ")";
    }
}
