import java.io.IOException;
import java.lang.reflect.InvocationTargetException;
import java.lang.reflect.Method;
import java.nio.file.Files;
import java.nio.file.Path;
import java.util.regex.Matcher;
import java.util.regex.Pattern;

/** The example of README.md: each call of it is made, and answers what stands behind it. */
final class ReadmeTests {
    private static final Path README = Path.of("README.md");
    private static final Pattern CALL = Pattern.compile("yard\\.(\\w+)\\((.*)\\); *// (\\S+?)(?:[:,] .*)?");
    private static final String MADE = "new TimewarpYard();";

    private ReadmeTests() {
    }

    static void runAll() {
        TimewarpYard yard = null;
        int calls = 0;
        try {
            for (String line : Files.readAllLines(README)) {
                Matcher call = CALL.matcher(line);
                if (line.endsWith(MADE)) {
                    yard = new TimewarpYard();
                } else if (line.startsWith("yard.")) {
                    boolean isTold = call.matches();
                    Check.due("README.md tells the answer: " + line, isTold, true);
                    if (isTold) {
                        Check.due("README.md " + line, answer(yard, call.group(1), call.group(2)), call.group(3));
                        calls++;
                    }
                }
            }
        } catch (IOException e) {
            throw new IllegalStateException(e);
        }
        Check.due("README.md has an example", calls > 10, true);
    }

    private static String answer(TimewarpYard yard, String name, String words) {
        String[] told = words.isEmpty() ? new String[0] : words.split(", ");
        for (Method method : TimewarpYard.class.getMethods()) {
            Class<?>[] types = method.getParameterTypes();
            if (method.getName().equals(name) && types.length == told.length) {
                Object[] values = new Object[told.length];
                for (int i = 0; i < told.length; i++) {
                    values[i] = value(types[i], told[i]);
                }
                return call(yard, method, values);
            }
        }
        return "no such method";
    }

    private static Object value(Class<?> type, String word) {
        if (type == char.class) {
            return word.charAt(1);
        }
        if (type == boolean.class) {
            return Boolean.valueOf(word);
        }
        if (type == long.class) {
            return Long.valueOf(word.replace("L", ""));
        }
        return Integer.valueOf(word);
    }

    private static String call(TimewarpYard yard, Method method, Object[] values) {
        try {
            Object answer = method.invoke(yard, values);
            return answer instanceof Character ? "'" + answer + "'" : String.valueOf(answer);
        } catch (InvocationTargetException e) {
            return "throws." + e.getCause().getClass().getSimpleName();
        } catch (IllegalAccessException e) {
            throw new IllegalStateException(e);
        }
    }
}
