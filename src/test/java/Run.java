import java.util.ArrayList;
import java.util.List;

/** A new object, with the calls that were made of it, so that twins of it can be made. */
final class Run {
    private static final int MOST_CALLS = 512;
    private static final List<String> CURSOR_CALLS =
            List.of("open", "hasNext", "next", "removeAt", "setAt", "bookOf");
    /** Three cursors for four books: what one row leaves out stands in the other. */
    private static final List<List<String>> CURSORS_ON_BOOKS = List.of(
            List.of("open(0, 0, PAIRS)", "next(0)", "open(1, 1, KEYS)", "open(2, 2, VALUES)",
                    "next(2)"),
            List.of("open(0, 1, PAIRS)", "open(1, 2, PAIRS)", "next(1)", "open(2, 3, KEYS)",
                    "next(2)"));

    private final Arrivalbooks x = new Arrivalbooks();
    private final List<String> history = new ArrayList<>();
    private int count = 0;

    /** A new object on which calls are made that must not throw. */
    static Run with(String... calls) {
        return new Run().made(calls);
    }

    Run made(String... calls) {
        for (String call : calls) {
            String got = make(call);
            Expect.due(told(call) + " throws", got.startsWith("throws"), false);
        }
        return this;
    }

    /** A plain book, empty so far, or the bounded one: the keys 0 to many - 1, each with 0. */
    Run filled(int book, int many) {
        int from = 0;
        while (from < many) {
            int most = from < 120 ? 60 : from < 140 ? 140 - from : 60;
            int now = Math.min(most, many - from);
            made("fill(" + book + ", " + from + ", 1, " + now + ")");
            from += now;
        }
        return this;
    }

    /** The queue, empty so far: the numbers 0 to many - 1. */
    Run offered(int many) {
        for (int number = 0; number < many; number++) {
            made("offer(" + number + ")");
        }
        return this;
    }

    Run due(String call, Object want) {
        String got = make(call);
        Expect.due(told(call), got, String.valueOf(want));
        return this;
    }

    /** The pairs of a book in their order, with MIN and MAX for the least and greatest int. */
    Run duePairs(int book, String want) {
        String got = String.join(" ", pairs(book));
        Expect.due(told("the pairs of book " + book), got, numerals(want));
        return this;
    }

    /** The pairs at the ends of a long book: "0=0 .. 199=0", and how many they are. */
    Run dueEnds(int book, int size, String first, String last) {
        due("size(" + book + ")", size);
        due("keyAt(" + book + ", 0)", keyOf(first)).due("valueAt(" + book + ", 0)", valueOf(first));
        String end = "At(" + book + ", " + (size - 1) + ")";
        return due("key" + end, keyOf(last)).due("value" + end, valueOf(last));
    }

    /** The books of the three cursors. */
    Run dueBooks(int... books) {
        for (int cursor = 0; cursor < books.length; cursor++) {
            due("bookOf(" + cursor + ")", books[cursor]);
        }
        return this;
    }

    /** What a cursor answers from where it is on; behind it there must be no next one. */
    Run dueRest(int cursor, Object... answers) {
        for (Object answer : answers) {
            due("hasNext(" + cursor + ")", true).due("next(" + cursor + ")", answer);
        }
        return due("hasNext(" + cursor + ")", false);
    }

    /** What stands in the output, which ends there. */
    Run dueOutput(String want) {
        StringBuilder got = new StringBuilder();
        for (int index = 0; index < want.length(); index++) {
            String code = make("outputAt(" + index + ")");
            got.append(code.startsWith("throws") ? "?" : "" + (char) Integer.parseInt(code));
        }
        Expect.due(told("the output"), got.toString(), want);
        return refused("outputAt(" + want.length() + ")", "NoSuchElementException");
    }

    /** The call throws just this, and changes nothing. */
    Run refused(String call, String exception) {
        String place = exception.equals("NoSuchElementException") ? "java.util." : "java.lang.";
        String want = "throws " + place + exception;
        for (List<String> before : allBefore(call)) {
            Arrivalbooks twin = Views.twin(before);
            Expect.due(told(call, before), Calls.outcome(twin, call), want);
            checkNothingChanges(before, call);
        }
        count++;
        Expect.due(told(call), Calls.outcome(x, call), want);
        return this;
    }

    /** The call answers, and changes nothing: all that can be seen of a twin stays the same. */
    Run changesNothing(String call, Object want) {
        for (List<String> before : allBefore(call)) {
            checkNothingChanges(before, call);
        }
        return due(call, want);
    }

    /** A call that is not one of cursors is tried with cursors on each of the books, too. */
    private List<List<String>> allBefore(String call) {
        List<List<String>> all = new ArrayList<>();
        all.add(history);
        if (!CURSOR_CALLS.contains(Calls.nameOf(call))) {
            for (List<String> cursors : CURSORS_ON_BOOKS) {
                List<String> longer = new ArrayList<>(history);
                longer.addAll(cursors);
                all.add(longer);
            }
        }
        return all;
    }

    private void checkNothingChanges(List<String> before, String call) {
        List<String> after = new ArrayList<>(before);
        after.add(call);
        List<String> due = Views.of(before);
        List<String> got = Views.of(after);
        for (int view = 0; view < due.size(); view++) {
            Expect.due(told(call, before) + ", seen behind it:", got.get(view), due.get(view));
        }
    }

    private String make(String call) {
        history.add(call);
        count++;
        if (count > MOST_CALLS) {
            throw new IllegalStateException("more than 512 calls of an object: " + history);
        }
        return Calls.outcome(x, call);
    }

    private List<String> pairs(int book) {
        List<String> pairs = new ArrayList<>();
        int size = x.size(book);
        for (int place = 0; place < size; place++) {
            pairs.add(x.keyAt(book, place) + "=" + x.valueAt(book, place));
        }
        count += 1 + 2 * size;
        return pairs;
    }

    private String told(String call) {
        return told(call, history);
    }

    /** The last calls are enough to find the place. */
    private static String told(String call, List<String> before) {
        int from = Math.max(0, before.size() - 6);
        return call + " behind " + (from > 0 ? ".. " : "") + before.subList(from, before.size());
    }

    private static String numerals(String text) {
        return text.replace("MIN", "" + Integer.MIN_VALUE).replace("MAX", "" + Integer.MAX_VALUE);
    }

    private static String keyOf(String pair) {
        return numerals(pair.substring(0, pair.indexOf('=')));
    }

    private static String valueOf(String pair) {
        return numerals(pair.substring(pair.indexOf('=') + 1));
    }
}
