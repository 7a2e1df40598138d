import java.io.IOException;
import java.lang.reflect.InvocationTargetException;
import java.lang.reflect.Method;
import java.nio.file.Files;
import java.nio.file.Path;
import java.util.regex.Matcher;
import java.util.regex.Pattern;

/** The calls that README.md shows, one after the other on one object: each answers what stands behind it. */
public final class ReadmeTest {
    private static final Pattern CALL = Pattern.compile("b\\.(\\w+)\\((.*)\\); +// (.*)");

    public static void main(String[] args) throws IOException, IllegalAccessException {
        Matcher block = Pattern.compile("(?s)```java\\n(.*?)```").matcher(Files.readString(Path.of("README.md")));
        if (!block.find()) throw new AssertionError("README.md shows no calls");
        Backwardterms b = new Backwardterms();
        int calls = 0;
        int wrong = 0;
        for (String line : block.group(1).split("\n")) {
            if (!line.startsWith("b.")) continue;
            calls++;
            Matcher call = CALL.matcher(line);
            String got = call.matches() ? answer(b, call.group(1), call.group(2)) : "nothing";
            if (call.matches() && call.group(3).equals(got)) continue;
            wrong++;
            System.out.println("ReadmeTest: " + line + " answered " + got);
        }
        System.out.println("ReadmeTest: " + calls + " calls, " + wrong + " wrong");
        if (wrong > 0 || calls < 20) System.exit(1);
    }

    private static String answer(Backwardterms b, String name, String written) throws IllegalAccessException {
        for (Method method : Backwardterms.class.getDeclaredMethods()) {
            if (!method.getName().equals(name)) continue;
            try {
                Object got = method.invoke(b, numbers(method.getParameterTypes(), written));
                return got instanceof String ? "\"" + got + "\"" : got.toString();
            } catch (InvocationTargetException e) {
                return "throws " + e.getCause().getClass().getSimpleName();
            }
        }
        return "no such call";
    }

    private static Object[] numbers(Class<?>[] types, String written) {
        String[] parts = written.isEmpty() ? new String[0] : written.split(", ");
        Object[] numbers = new Object[parts.length];
        for (int i = 0; i < parts.length; i++) {
            numbers[i] = types[i] == boolean.class ? (Object) parts[i].equals("true") : (Object) Integer.valueOf(parts[i]);
        }
        return numbers;
    }
}
