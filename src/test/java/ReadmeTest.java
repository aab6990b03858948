import java.io.IOException;
import java.lang.reflect.InvocationTargetException;
import java.lang.reflect.Method;
import java.nio.file.Files;
import java.nio.file.Path;
import java.util.regex.Matcher;
import java.util.regex.Pattern;

/** The examples of README.md answer what it tells. */
public final class ReadmeTest {
    private static final Pattern CALL = Pattern.compile("yard\\.(\\w+)\\(([-\\d, ]*)\\);(.*)");
    private static final Pattern TOLD = Pattern.compile("answers (-?\\d+):|throws (\\w+):");

    public static void main(String[] args) throws IOException, IllegalAccessException {
        PhaserYard yard = new PhaserYard();
        int objects = 0;
        int told = 0;
        for (String line : Files.readAllLines(Path.of("README.md"))) {
            Matcher call = CALL.matcher(line);
            if (line.startsWith("PhaserYard yard = new PhaserYard();")) {
                yard = new PhaserYard();
                objects++;
            } else if (call.lookingAt()) {
                told += isAsTold(line, yard, call) ? 1 : 0;
            }
        }
        Check.same("objects in the examples", 2, objects);
        Check.same("answers that the examples tell", 11, told);
        Check.end();
    }

    /** Does the call of a line: whether the line tells what comes of it. */
    private static boolean isAsTold(String line, PhaserYard yard, Matcher call) throws IllegalAccessException {
        String got = outcomeOf(yard, call.group(1), call.group(2));
        Matcher told = TOLD.matcher(call.group(3));
        if (!told.find()) {
            Check.holds(line + " came to " + got, !got.endsWith("Exception"));
            return false;
        }
        String due = told.group(1) != null ? told.group(1) : told.group(2);
        Check.holds(line + " came to " + got, got.equals(due));
        return true;
    }

    private static String outcomeOf(PhaserYard yard, String name, String numbers) throws IllegalAccessException {
        String[] words = numbers.isEmpty() ? new String[0] : numbers.split(", ");
        Object[] values = new Object[words.length];
        for (int i = 0; i < words.length; i++) {
            values[i] = Integer.valueOf(words[i]);
        }
        try {
            return String.valueOf(methodOf(name).invoke(yard, values));
        } catch (InvocationTargetException e) {
            return e.getCause().getClass().getSimpleName();
        }
    }

    private static Method methodOf(String name) {
        for (Method method : PhaserYard.class.getMethods()) {
            if (method.getName().equals(name)) {
                return method;
            }
        }
        throw new AssertionError("the example calls what is not there: " + name);
    }
}
