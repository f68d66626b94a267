import java.lang.reflect.InvocationTargetException;
import java.lang.reflect.Method;
import java.util.HashMap;
import java.util.List;
import java.util.Map;

/** Any call by its name, on a WallMarks or on a PlainMarks, and what its refusals look like. */
final class Calls {
    static final List<String> WORDS = List.of("BAD", "NOT", "FULL", "NULL", "INDEX", "CAST", "STORE", "SIZE");
    private static final int[] ANSWERS = {-2, -3, -4, -11, -12, -13, -14, -15};
    private static final int[] FINDINGS = {0, 0, 0, 1, 2, 3, 4, 5};
    private static final Map<Class<?>, Map<String, Method>> METHODS = new HashMap<>();
    private static int made = 0;

    private Calls() {
    }

    static Method method(Class<?> of, String name) {
        Map<String, Method> named = METHODS.get(of);
        if (named == null) {
            named = new HashMap<>();
            for (Method m : of.getDeclaredMethods()) {
                if (of != WallMarks.class || java.lang.reflect.Modifier.isPublic(m.getModifiers())) {
                    named.put(m.getName(), m);
                }
            }
            METHODS.put(of, named);
        }
        return named.get(name);
    }

    /** How many calls were made so far by on(). */
    static int made() {
        return made;
    }

    static long on(Object x, String name, int... numbers) {
        made++;
        Object[] boxed = new Object[numbers.length];
        for (int i = 0; i < numbers.length; i++) {
            boxed[i] = numbers[i];
        }
        try {
            return ((Number) method(x.getClass(), name).invoke(x, boxed)).longValue();
        } catch (InvocationTargetException thrown) {
            throw new AssertionError(text(name, numbers) + " has thrown", thrown.getCause());
        } catch (IllegalAccessException hidden) {
            throw new AssertionError(text(name, numbers) + " cannot be called", hidden);
        }
    }

    static String text(String name, int... numbers) {
        StringBuilder text = new StringBuilder(name);
        for (int number : numbers) {
            text.append(' ').append(number);
        }
        return text.toString();
    }

    static boolean answersLong(String name) {
        return method(WallMarks.class, name).getReturnType() == long.class;
    }

    /** What a call answers that is refused by BAD, NOT, .. */
    static long refusal(String name, String word) {
        int answer = ANSWERS[WORDS.indexOf(word)];
        if (answersLong(name)) {
            return Long.MIN_VALUE - answer;
        }
        switch (name) {
            case "get": return Integer.MIN_VALUE;
            case "sister": return -5;
            case "common": return -10002;
            default: return answer;
        }
    }

    /** The FINDING that a refusal leaves; 0 if it leaves none. */
    static int finding(String word) {
        return FINDINGS[WORDS.indexOf(word)];
    }
}
