import java.lang.reflect.Constructor;
import java.lang.reflect.Field;
import java.lang.reflect.Method;
import java.lang.reflect.Modifier;
import java.util.Set;
import java.util.TreeSet;

/** The class has the document's face and no other member that can be seen from outside. */
public final class FaceTest {
    private static final String ARGUMENT = "IllegalArgumentException";
    private static final String STATE = "IllegalStateException";
    private static final String INDEX = "IndexOutOfBoundsException";
    private static final Set<String> FACE = new TreeSet<>(Set.of(
        "int body(int) throws " + ARGUMENT,
        "int add(int, int, int) throws " + ARGUMENT + ", " + STATE,
        "void begin(int, int, int, int) throws " + ARGUMENT,
        "int run(int) throws " + ARGUMENT + ", " + STATE + ", UnsupportedOperationException",
        "int result() throws " + STATE + ", ArithmeticException",
        "int said(int) throws " + INDEX,
        "int task(int, int) throws " + ARGUMENT + ", " + INDEX,
        "int future(int) throws " + ARGUMENT + ", " + STATE,
        "int count(int) throws " + ARGUMENT));

    public static void main(String[] args) {
        Check.holds("the class is public and final", Modifier.isPublic(PhaserYard.class.getModifiers())
            && Modifier.isFinal(PhaserYard.class.getModifiers()));
        Check.holds("one public constructor without parameters", hasOneConstructor());
        methodsAreTheFace();
        for (Field field : PhaserYard.class.getDeclaredFields()) {
            Check.holds(field + " is private", Modifier.isPrivate(field.getModifiers()));
        }
        for (Class<?> inside : PhaserYard.class.getDeclaredClasses()) {
            Check.holds(inside + " is static and not public", Modifier.isStatic(inside.getModifiers())
                && !Modifier.isPublic(inside.getModifiers()) && !Modifier.isProtected(inside.getModifiers()));
        }
        Check.end();
    }

    private static boolean hasOneConstructor() {
        Constructor<?>[] all = PhaserYard.class.getDeclaredConstructors();
        return all.length == 1 && Modifier.isPublic(all[0].getModifiers()) && all[0].getParameterCount() == 0;
    }

    private static void methodsAreTheFace() {
        Set<String> seen = new TreeSet<>();
        for (Method method : PhaserYard.class.getDeclaredMethods()) {
            if (!Modifier.isPrivate(method.getModifiers())) {
                seen.add(textOf(method));
                Check.holds(method + " is public and not static", Modifier.isPublic(method.getModifiers())
                    && !Modifier.isStatic(method.getModifiers()));
            }
        }
        Check.holds("the face is " + FACE + ", seen is " + seen, seen.equals(FACE));
    }

    private static String textOf(Method method) {
        return method.getReturnType() + " " + method.getName() + "(" + listOf(method.getParameterTypes()) + ") throws "
            + listOf(method.getExceptionTypes());
    }

    private static String listOf(Class<?>[] types) {
        StringBuilder text = new StringBuilder();
        for (Class<?> type : types) {
            text.append(text.length() > 0 ? ", " : "").append(type.getSimpleName());
        }
        return text.toString();
    }
}
