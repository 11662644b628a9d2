import java.util.ArrayList;
import java.util.List;

/**
 * All that calls can tell of an object: its books, the output, the bound and the cursors. Each
 * view is taken of a twin of its own, for some of them change what they look at.
 */
final class Views {
    private static final int MOST_CALLS = 512;
    private static final int MOST_PAIRS = 200;
    private static final int MOST_SIGNS_READ = 200;

    private Views() {
    }

    /** A new object on which the same calls are made; some of them may throw. */
    static Arrivalbooks twin(List<String> history) {
        Arrivalbooks x = new Arrivalbooks();
        for (String call : history) {
            Calls.outcome(x, call);
        }
        return x;
    }

    static List<String> of(List<String> history) {
        if (history.size() + MOST_PAIRS + 20 > MOST_CALLS) {
            throw new IllegalStateException("too many calls to look at what they made");
        }
        List<String> views = new ArrayList<>();
        for (int book = 0; book < 4; book++) {
            views.add("keys of book " + book + row(twin(history), "keyAt(" + book + ", #)"));
            views.add("values of book " + book + row(twin(history), "valueAt(" + book + ", #)"));
        }
        views.add("output" + output(twin(history)));
        views.add("bound " + Calls.outcome(twin(history), "fill(2, 123456, 1, 60)"));
        for (int cursor = 0; cursor < 3; cursor++) {
            views.add("cursor " + cursor + way(twin(history), cursor));
            views.add("setAt(" + cursor + ")" + change(twin(history), "setAt(#, 98765)", cursor));
            views.add("removeAt(" + cursor + ")" + change(twin(history), "removeAt(#)", cursor));
        }
        views.add("errors " + Calls.outcome(twin(history), "errors()"));
        return views;
    }

    private static String row(Arrivalbooks x, String call) {
        StringBuilder text = new StringBuilder();
        for (int place = 0; place <= MOST_PAIRS; place++) {
            String answer = Calls.outcome(x, call.replace("#", "" + place));
            text.append(' ').append(answer);
            if (answer.startsWith("throws")) {
                break;
            }
        }
        return text.toString();
    }

    private static String output(Arrivalbooks x) {
        StringBuilder text = new StringBuilder(" of length ");
        int length = 0;
        for (int step = 4096; step > 0; step /= 2) {
            if (!Calls.outcome(x, "outputAt(" + (length + step - 1) + ")").startsWith("throws")) {
                length += step;
            }
        }
        text.append(length);
        for (int index = 0; index < Math.min(length, MOST_SIGNS_READ); index++) {
            text.append(' ').append(Calls.outcome(x, "outputAt(" + index + ")"));
        }
        return text.toString();
    }

    /** Its book, and what it goes to from where it is on. */
    private static String way(Arrivalbooks x, int cursor) {
        String call = "next(" + cursor + ")";
        return " of book " + Calls.outcome(x, "bookOf(" + cursor + ")") + ", "
                + Calls.outcome(x, "hasNext(" + cursor + ")")
                + row(x, call);
    }

    /** What a change by a cursor answers, and what becomes of the books by it. */
    private static String change(Arrivalbooks x, String call, int cursor) {
        StringBuilder text = new StringBuilder(" ");
        text.append(Calls.outcome(x, call.replace("#", "" + cursor)));
        for (int book = 0; book < 4; book++) {
            text.append(' ').append(x.size(book)).append('/').append(x.sum(book));
        }
        return text.toString();
    }
}
