import java.io.IOException;
import java.lang.reflect.InvocationTargetException;
import java.lang.reflect.Method;
import java.nio.file.Files;
import java.nio.file.Path;
import java.util.Arrays;
import java.util.regex.Matcher;
import java.util.regex.Pattern;

/** The calls of README.md's example, each with the answer that its line tells. Run from the project's folder. */
public final class ReadmeTest {
    private static final Pattern CALL = Pattern.compile("s\\.(\\w+)\\(([^)]*)\\);\\s*// (-?\\d+).*");
    private static final int LEAST_CALLS = 20;

    private static Method methodNamed(String name) {
        return Arrays.stream(StateRecords.class.getDeclaredMethods()).filter(m -> m.getName().equals(name)).findFirst()
                .orElseThrow(() -> new AssertionError("README.md calls " + name + ", which there is not"));
    }

    private static long answer(StateRecords s, String name, String text) throws ReflectiveOperationException {
        Method method = methodNamed(name);
        String[] words = text.isEmpty() ? new String[0] : text.split(", ");
        Class<?>[] kinds = method.getParameterTypes();
        Object[] arguments = new Object[words.length];
        for (int i = 0; i < words.length; i++) {
            arguments[i] = argument(words[i], kinds[i]);
        }
        return ((Number) method.invoke(s, arguments)).longValue();
    }

    private static Object argument(String word, Class<?> kind) {
        if (kind == boolean.class) {
            return Boolean.valueOf(word);
        }
        return kind == long.class ? (Object) Long.valueOf(word) : Integer.valueOf(word);
    }

    public static void main(String[] args) throws IOException, ReflectiveOperationException {
        StateRecords s = new StateRecords();
        int asked = 0;
        int wrong = 0;
        for (String line : Files.readAllLines(Path.of("README.md"))) {
            Matcher call = CALL.matcher(line);
            if (call.matches()) {
                asked++;
                long due = Long.parseLong(call.group(3));
                long got;
                try {
                    got = answer(s, call.group(1), call.group(2));
                } catch (InvocationTargetException e) {
                    throw new AssertionError(line + " threw", e.getCause());
                }
                if (got != due) {
                    wrong++;
                    System.out.println(line + ": answered " + got);
                }
            }
        }
        System.out.println(asked + " lines of README.md, " + wrong + " not as they tell");
        if (wrong != 0 || asked < LEAST_CALLS) {
            System.exit(1);
        }
    }
}
