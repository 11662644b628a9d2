/** What the tests of the project share: answers that are due, exceptions that are due, states. */
final class Expect {
    interface Call {
        Object made();
    }

    private static final int MOST_PRINTED = 60;

    private static int checked = 0;
    private static int wrong = 0;
    private static String sentence = "";

    private Expect() {
    }

    /** What is due from here on is due by these words of the document. */
    static void under(String words) {
        sentence = words + ": ";
    }

    static void due(String call, Object got, Object want) {
        checked++;
        if (!want.equals(got)) {
            wrong++;
            if (wrong <= MOST_PRINTED) {
                System.out.println(sentence + call + " answered " + got + ", due is " + want);
            }
        }
    }

    /** The very class is asked for: a class below it would be one that the machine throws. */
    static void dueThrow(Arrivalbooks x, String call, Class<?> want, Call made) {
        String before = state(x);
        due(call, outcome(made), "throws " + want.getName());
        due("the state behind " + call + ", which throws,", state(x), before);
    }

    static String outcome(Call made) {
        try {
            return String.valueOf(made.made());
        } catch (RuntimeException e) {
            return "throws " + e.getClass().getName();
        }
    }

    /** A digest of what can be seen by questions, in few calls: an object has but 512. */
    static String state(Arrivalbooks x) {
        StringBuilder text = new StringBuilder();
        for (int book = 0; book < 4; book++) {
            text.append(x.size(book)).append('/').append(x.hash(book)).append('/');
            text.append(x.sum(book)).append(' ');
        }
        text.append(x.fullness());
        for (int cursor = 0; cursor < 3; cursor++) {
            int at = cursor;
            text.append(' ').append(x.bookOf(cursor)).append('/');
            text.append(outcome(() -> x.hasNext(at)));
        }
        return text.toString();
    }

    /** The pairs of a book in their order. */
    static String pairs(Arrivalbooks x, int book) {
        StringBuilder text = new StringBuilder();
        for (int place = 0; place < x.size(book); place++) {
            text.append(place == 0 ? "" : " ");
            text.append(x.keyAt(book, place)).append('=').append(x.valueAt(book, place));
        }
        return text.toString();
    }

    static void putAll(Arrivalbooks x, int book, int... keysAndValues) {
        for (int i = 0; i < keysAndValues.length; i += 2) {
            x.put(book, keysAndValues[i], keysAndValues[i + 1]);
        }
    }

    /** A plain book with the keys 0 to many - 1, each with the value 0. */
    static void fillUpTo(Arrivalbooks x, int book, int many) {
        for (int from = 0; from < many; from++) {
            x.put(book, from, 0);
        }
    }

    static void finish(String test) {
        System.out.println(test + ": " + checked + " checked, " + wrong + " wrong");
        if (wrong != 0) {
            System.exit(1);
        }
    }
}
