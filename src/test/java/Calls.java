import java.lang.reflect.InvocationTargetException;
import java.lang.reflect.Method;
import java.util.HashMap;
import java.util.Map;

/**
 * Calls of the face written as texts, such as "put(0, MIN, 7)". MIN and MAX stand for the least
 * and the greatest int, and the constants of the class for their numbers.
 */
final class Calls {
    private static final Map<String, Method> METHODS = new HashMap<>();
    private static final Map<String, Object[]> ARGUMENTS = new HashMap<>();

    static {
        for (Method method : Arrivalbooks.class.getDeclaredMethods()) {
            METHODS.put(method.getName(), method);
        }
    }

    private Calls() {
    }

    static String nameOf(String call) {
        return call.substring(0, call.indexOf('('));
    }

    /** The answer, or "throws " and the very class of what was thrown. */
    static String outcome(Arrivalbooks x, String call) {
        try {
            return String.valueOf(METHODS.get(nameOf(call)).invoke(x, argumentsOf(call)));
        } catch (InvocationTargetException e) {
            return "throws " + e.getCause().getClass().getName();
        } catch (IllegalAccessException e) {
            throw new IllegalStateException(call, e);
        }
    }

    /** One call for each of the numbers, which stands where the sign # is. */
    static String[] each(String[] numbers, String call) {
        String[] calls = new String[numbers.length];
        for (int i = 0; i < numbers.length; i++) {
            calls[i] = call.replace("#", numbers[i]);
        }
        return calls;
    }

    private static Object[] argumentsOf(String call) {
        return ARGUMENTS.computeIfAbsent(call, Calls::readArguments);
    }

    private static Object[] readArguments(String call) {
        String inside = call.substring(call.indexOf('(') + 1, call.length() - 1).trim();
        if (inside.isEmpty()) {
            return new Object[0];
        }
        String[] words = inside.split(", *");
        Object[] numbers = new Object[words.length];
        for (int i = 0; i < words.length; i++) {
            numbers[i] = numberOf(words[i]);
        }
        return numbers;
    }

    static int numberOf(String word) {
        switch (word) {
            case "MIN":
                return Integer.MIN_VALUE;
            case "MAX":
                return Integer.MAX_VALUE;
            case "NONE":
                return Arrivalbooks.NONE;
            case "KEYS":
                return Arrivalbooks.KEYS;
            case "VALUES":
                return Arrivalbooks.VALUES;
            case "PAIRS":
                return Arrivalbooks.PAIRS;
            default:
                return Integer.parseInt(word);
        }
    }
}
