import java.lang.reflect.InvocationTargetException;
import java.lang.reflect.Method;
import java.lang.reflect.Modifier;
import java.util.ArrayList;
import java.util.Arrays;
import java.util.List;
import java.util.Map;
import java.util.TreeMap;

/** An object of the class and one of Plain, on which the same calls are made. */
final class Pair {
    private static final Map<String, Method[]> CALLS = new TreeMap<>();

    static {
        for (Method m : Backwardterms.class.getDeclaredMethods()) {
            if (!Modifier.isPublic(m.getModifiers())) continue;
            try {
                CALLS.put(m.getName(), new Method[] {m, Plain.class.getDeclaredMethod(m.getName(), m.getParameterTypes())});
            } catch (NoSuchMethodException e) {
                throw new AssertionError(e);
            }
        }
    }

    private final Backwardterms real = new Backwardterms();
    private final Plain plain = new Plain();
    private final List<String> told = new ArrayList<>();
    /** What the class answered last. */
    Object answer;

    static int countOf(String name) {
        return CALLS.get(name)[0].getParameterCount();
    }

    /** Whether both answer the same; if not, tells all calls until then. */
    boolean call(String name, Object... args) {
        Method[] both = CALLS.get(name);
        Class<?>[] promised = both[0].getExceptionTypes();
        answer = answerOf(real, both[0], promised, args);
        Object due = answerOf(plain, both[1], promised, args);
        told.add(name + Arrays.toString(args) + " = " + answer);
        if (due.equals(answer)) return true;
        for (String s : told) System.out.println("  " + s);
        System.out.println("  due is " + due);
        return false;
    }

    /** The answer, or which of the promised exceptions was thrown; the run ends with any other one. */
    private static Object answerOf(Object of, Method method, Class<?>[] promised, Object[] args) {
        try {
            return method.invoke(of, args);
        } catch (InvocationTargetException e) {
            Class<?> thrown = e.getCause().getClass();
            for (Class<?> c : promised) if (c == thrown) return "throws." + thrown.getSimpleName();
            throw new AssertionError(of.getClass() + "." + method.getName() + Arrays.toString(args), e.getCause());
        } catch (IllegalAccessException e) {
            throw new AssertionError(e);
        }
    }
}
