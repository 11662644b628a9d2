import java.lang.reflect.InvocationTargetException;
import java.lang.reflect.Method;
import java.util.Arrays;

/**
 * Runs of 512 calls, always the same ones, beside the model: each call must answer what the model
 * answers, or throw the very same class of exception.
 */
public final class RandomRunsTest {
    private static final int RUNS = 4000;
    private static final int CALLS = 512;
    private static final int[] EDGES = {
        Integer.MIN_VALUE, Integer.MIN_VALUE + 1, -1, 0, 1, Integer.MAX_VALUE - 1,
        Integer.MAX_VALUE
    };

    /** A call, the kinds of its arguments, and how often it comes in short and in long books. */
    private static final String[][] CALL_ROWS = {
        {"rebind", "B", "1", "1"}, {"put", "bkv", "9", "9"}, {"putNew", "bkv", "3", "6"},
        {"add", "bkv", "3", "6"}, {"halve", "bk", "3", "3"}, {"addToAll", "bv", "1", "1"},
        {"replace", "bkv", "2", "2"}, {"remove", "bk", "4", "4"}, {"removePair", "bkv", "3", "2"},
        {"fill", "bksm", "1", "16"}, {"pour", "bb", "2", "4"}, {"copy", "bb", "2", "1"},
        {"clear", "b", "1", "0"}, {"offer", "k", "5", "50"}, {"poll", "", "2", "1"},
        {"toEnd", "k", "3", "3"}, {"open", "cbd", "9", "6"}, {"hasNext", "c", "5", "3"},
        {"next", "c", "14", "9"}, {"removeAt", "c", "7", "4"}, {"setAt", "cv", "7", "4"},
        {"bookOf", "c", "4", "3"}, {"size", "b", "2", "2"}, {"hasKey", "bk", "2", "2"},
        {"hasValue", "bv", "2", "2"}, {"get", "bkv", "2", "2"}, {"keyAt", "bp", "3", "3"},
        {"valueAt", "bp", "3", "3"}, {"placeOf", "bk", "2", "2"}, {"areEqual", "bb", "3", "2"},
        {"areAlike", "bb", "3", "2"}, {"hash", "b", "2", "2"}, {"sum", "b", "2", "2"},
        {"write", "b", "2", "2"}, {"outputAt", "p", "3", "3"}, {"isAddRefused", "bd", "1", "1"},
        {"isNothingRefused", "bk", "1", "1"}, {"mean", "b", "2", "2"}, {"fullness", "", "2", "2"},
        {"errors", "", "1", "1"}
    };

    private static final Method[] REAL = methods(Arrivalbooks.class);
    private static final Method[] MODEL = methods(Model.class);

    private static long seed;
    private static int keys;
    private static int refused = 0;

    public static void main(String[] args) throws ReflectiveOperationException {
        int wrongRuns = 0;
        for (int run = 0; run < RUNS && wrongRuns < 5; run++) {
            seed = run * 7919L + 1;
            boolean isLong = run % 3 == 0;
            keys = isLong ? 300 : 4 + run % 9;
            if (!isAsTheModelTells(run, isLong ? 3 : 2)) {
                wrongRuns++;
            }
        }
        System.out.println("RandomRunsTest: " + RUNS + " runs, " + refused + " calls that throw, "
                + wrongRuns + " runs wrong");
        if (wrongRuns != 0) {
            System.exit(1);
        }
    }

    private static Method[] methods(Class<?> type) {
        Method[] found = new Method[CALL_ROWS.length];
        for (int row = 0; row < found.length; row++) {
            Class<?>[] ints = new Class<?>[CALL_ROWS[row][1].length()];
            Arrays.fill(ints, int.class);
            try {
                found[row] = type.getDeclaredMethod(CALL_ROWS[row][0], ints);
            } catch (NoSuchMethodException e) {
                throw new IllegalStateException(type + " lacks " + CALL_ROWS[row][0]);
            }
        }
        return found;
    }

    private static boolean isAsTheModelTells(int run, int column)
            throws ReflectiveOperationException {
        Arrivalbooks real = new Arrivalbooks();
        Model model = new Model();
        for (int call = 0; call < CALLS; call++) {
            int row = pickRow(column);
            Object[] values = arguments(CALL_ROWS[row][1]);
            String due = outcome(MODEL[row], model, values);
            String got = outcome(REAL[row], real, values);
            if (due.startsWith("throws")) {
                refused++;
            }
            if (!due.equals(got)) {
                System.out.println("run " + run + ", call " + call + ": " + CALL_ROWS[row][0]
                        + Arrays.toString(values) + " answered " + got + ", due is " + due);
                return false;
            }
        }
        return true;
    }

    private static String outcome(Method method, Object on, Object[] values)
            throws ReflectiveOperationException {
        try {
            return String.valueOf(method.invoke(on, values));
        } catch (InvocationTargetException e) {
            return "throws " + e.getCause().getClass().getName();
        }
    }

    private static int below(int limit) {
        seed = seed * 6364136223846793005L + 1442695040888963407L;
        return (int) ((seed >>> 33) % limit);
    }

    private static int pickRow(int column) {
        int total = 0;
        for (String[] row : CALL_ROWS) {
            total += Integer.parseInt(row[column]);
        }
        int rest = below(total);
        for (int row = 0; row < CALL_ROWS.length; row++) {
            rest -= Integer.parseInt(CALL_ROWS[row][column]);
            if (rest < 0) {
                return row;
            }
        }
        throw new IllegalStateException("no row");
    }

    private static Object[] arguments(String kinds) {
        Object[] values = new Object[kinds.length()];
        for (int i = 0; i < values.length; i++) {
            values[i] = argument(kinds.charAt(i));
        }
        return values;
    }

    private static int argument(char kind) {
        boolean isOdd = below(40) == 0;
        switch (kind) {
            case 'b':
                return isOdd ? wrongOf(4) : below(4);
            case 'c':
                return isOdd ? wrongOf(3) : below(3);
            case 'd':
                return isOdd ? wrongOf(3) : below(3);
            case 'B':
                return isOdd ? wrongOf(41) : below(42);
            case 'm':
                return isOdd ? wrongOf(61) : keys < 300 ? below(8) : below(61);
            case 's':
                return isOdd ? EDGES[below(EDGES.length)] : below(5) - 2;
            case 'p':
                return isOdd ? wrongOf(200) : below(keys + 2);
            case 'v':
                return isOdd ? EDGES[below(EDGES.length)] : below(9) - 4;
            default:
                return isOdd ? EDGES[below(EDGES.length)] : below(keys);
        }
    }

    private static int wrongOf(int limit) {
        int[] wrong = {-1, limit, limit + 1, Integer.MIN_VALUE, Integer.MAX_VALUE};
        return wrong[below(wrong.length)];
    }
}
