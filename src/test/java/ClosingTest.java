import java.util.ArrayList;
import java.util.List;

/**
 * Which calls close which cursors: each call from rebind() to toEnd() those of the book that it is
 * about, also if nothing changes by it, and none when it throws; removeAt() and setAt() those of
 * their book but the one by which they are made; all others none.
 */
public final class ClosingTest {
    private interface Change {
        Object on(Arrivalbooks x);
    }

    private static final class Row {
        final String call;
        final int closed;
        final Change change;

        Row(String call, int closed, Change change) {
            this.call = call;
            this.closed = closed;
            this.change = change;
        }
    }

    private static final int NO_BOOK = Arrivalbooks.NONE;
    private static final List<Row> ROWS = new ArrayList<>();

    public static void main(String[] args) {
        rowsThatChange();
        rowsThatChangeNothing();
        rowsThatThrow();
        rowsThatAsk();
        for (Row row : ROWS) {
            check(row);
        }
        refusalsCloseNone();
        oneCursorStaysOpen();
        throwingCursorCallsCloseNone();
        Expect.finish("ClosingTest");
    }

    private static void row(String call, int closed, Change change) {
        ROWS.add(new Row(call, closed, change));
    }

    private static void rowsThatChange() {
        row("rebind(5)", 2, x -> x.rebind(5));
        for (int book = 0; book < 3; book++) {
            int b = book;
            row("put(" + b + ", 9, 9)", b, x -> x.put(b, 9, 9));
            row("put(" + b + ", 1, 9)", b, x -> x.put(b, 1, 9));
            row("addToAll(" + b + ", 1)", b, x -> x.addToAll(b, 1));
            row("replace(" + b + ", 1, 5)", b, x -> x.replace(b, 1, 5));
            row("remove(" + b + ", 1)", b, x -> x.remove(b, 1));
            row("removePair(" + b + ", 1, 4)", b, x -> x.removePair(b, 1, 4));
            row("fill(" + b + ", 5, 1, 2)", b, x -> x.fill(b, 5, 1, 2));
            row("pour(3, " + b + ")", b, x -> x.pour(3, b));
            row("pour(" + (b + 1) % 3 + ", " + b + ")", b, x -> x.pour((b + 1) % 3, b));
            row("clear(" + b + ")", b, x -> x.clear(b));
        }
        for (int book = 0; book < 2; book++) {
            int b = book;
            row("putNew(" + b + ", 9, 9)", b, x -> x.putNew(b, 9, 9));
            row("add(" + b + ", 1, 1)", b, x -> x.add(b, 1, 1));
            row("add(" + b + ", 9, 1)", b, x -> x.add(b, 9, 1));
            row("halve(" + b + ", 1)", b, x -> x.halve(b, 1));
            row("halve(" + b + ", 2)", b, x -> x.halve(b, 2));
            row("copy(2, " + b + ")", b, x -> x.copy(2, b));
            row("copy(3, " + b + ")", b, x -> x.copy(3, b));
            row("copy(" + (1 - b) + ", " + b + ")", b, x -> x.copy(1 - b, b));
        }
        row("offer(9)", 3, x -> x.offer(9));
        row("offer(1)", 3, x -> x.offer(1));
        row("poll()", 3, Arrivalbooks::poll);
        row("toEnd(1)", 3, x -> x.toEnd(1));
    }

    private static void rowsThatChangeNothing() {
        for (int book = 0; book < 3; book++) {
            int b = book;
            row("put(" + b + ", 1, 4), the same", b, x -> x.put(b, 1, 4));
            row("addToAll(" + b + ", 0)", b, x -> x.addToAll(b, 0));
            row("replace(" + b + ", 9, 5)", b, x -> x.replace(b, 9, 5));
            row("removePair(" + b + ", 1, 9)", b, x -> x.removePair(b, 1, 9));
            row("removePair(" + b + ", 9, 9)", b, x -> x.removePair(b, 9, 9));
            row("fill(" + b + ", 5, 1, 0)", b, x -> x.fill(b, 5, 1, 0));
        }
        for (int book = 0; book < 2; book++) {
            int b = book;
            row("putNew(" + b + ", 1, 9)", b, x -> x.putNew(b, 1, 9));
            row("add(" + b + ", 1, 0)", b, x -> x.add(b, 1, 0));
            row("halve(" + b + ", 9)", b, x -> x.halve(b, 9));
        }
        row("toEnd(2), the last one", 3, x -> x.toEnd(2));
    }

    private static void rowsThatThrow() {
        row("rebind(0)", NO_BOOK, x -> x.rebind(0));
        row("rebind(41)", NO_BOOK, x -> x.rebind(41));
        row("put(4, 9, 9)", NO_BOOK, x -> x.put(4, 9, 9));
        row("put(3, 9, 9)", NO_BOOK, x -> x.put(3, 9, 9));
        row("putNew(2, 9, 9)", NO_BOOK, x -> x.putNew(2, 9, 9));
        row("add(2, 9, 9)", NO_BOOK, x -> x.add(2, 9, 9));
        row("halve(2, 1)", NO_BOOK, x -> x.halve(2, 1));
        row("addToAll(3, 1)", NO_BOOK, x -> x.addToAll(3, 1));
        row("replace(3, 1, 1)", NO_BOOK, x -> x.replace(3, 1, 1));
        row("remove(0, 9)", NO_BOOK, x -> x.remove(0, 9));
        row("remove(2, 9)", NO_BOOK, x -> x.remove(2, 9));
        row("remove(3, 1)", NO_BOOK, x -> x.remove(3, 1));
        row("removePair(3, 1, 1)", NO_BOOK, x -> x.removePair(3, 1, 1));
        row("fill(0, 1, 1, 61)", NO_BOOK, x -> x.fill(0, 1, 1, 61));
        row("fill(2, 1, 1, -1)", NO_BOOK, x -> x.fill(2, 1, 1, -1));
        row("fill(3, 1, 1, 1)", NO_BOOK, x -> x.fill(3, 1, 1, 1));
        row("pour(0, 0)", NO_BOOK, x -> x.pour(0, 0));
        row("pour(0, 3)", NO_BOOK, x -> x.pour(0, 3));
        row("pour(4, 0)", NO_BOOK, x -> x.pour(4, 0));
        row("copy(1, 1)", NO_BOOK, x -> x.copy(1, 1));
        row("copy(0, 2)", NO_BOOK, x -> x.copy(0, 2));
        row("copy(4, 0)", NO_BOOK, x -> x.copy(4, 0));
        row("clear(3)", NO_BOOK, x -> x.clear(3));
        row("toEnd(9)", NO_BOOK, x -> x.toEnd(9));
    }

    private static void rowsThatAsk() {
        row("size(0)", NO_BOOK, x -> x.size(0));
        row("hasKey(0, 1)", NO_BOOK, x -> x.hasKey(0, 1));
        row("hasValue(0, 1)", NO_BOOK, x -> x.hasValue(0, 1));
        row("get(0, 1, 1)", NO_BOOK, x -> x.get(0, 1, 1));
        row("keyAt(0, 0)", NO_BOOK, x -> x.keyAt(0, 0));
        row("valueAt(0, 0)", NO_BOOK, x -> x.valueAt(0, 0));
        row("placeOf(0, 1)", NO_BOOK, x -> x.placeOf(0, 1));
        row("areEqual(0, 1)", NO_BOOK, x -> x.areEqual(0, 1));
        row("areAlike(0, 1)", NO_BOOK, x -> x.areAlike(0, 1));
        row("hash(0)", NO_BOOK, x -> x.hash(0));
        row("sum(0)", NO_BOOK, x -> x.sum(0));
        row("write(0)", NO_BOOK, x -> x.write(0));
        row("outputAt(0)", NO_BOOK, x -> x.outputAt(0));
        row("isAddRefused(0, 0)", NO_BOOK, x -> x.isAddRefused(0, 0));
        row("isNothingRefused(0, 1)", NO_BOOK, x -> x.isNothingRefused(0, 1));
        row("mean(0)", NO_BOOK, x -> x.mean(0));
        row("fullness()", NO_BOOK, Arrivalbooks::fullness);
        row("errors()", NO_BOOK, Arrivalbooks::errors);
    }

    private static Arrivalbooks withPairsInAllBooks() {
        Arrivalbooks x = new Arrivalbooks();
        for (int book = 0; book < 3; book++) {
            Expect.putAll(x, book, 1, 4, 2, 1);
        }
        x.offer(1);
        x.offer(2);
        return x;
    }

    /** Three of the books at a time, for there are but three cursors; then all three on one. */
    private static void check(Row row) {
        for (int left = 0; left < 4; left++) {
            Arrivalbooks x = withPairsInAllBooks();
            for (int cursor = 0; cursor < 3; cursor++) {
                x.open(cursor, cursor < left ? cursor : cursor + 1, cursor);
            }
            Expect.outcome(() -> row.change.on(x));
            for (int cursor = 0; cursor < 3; cursor++) {
                int book = cursor < left ? cursor : cursor + 1;
                int due = book == row.closed ? NO_BOOK : book;
                Expect.due(row.call + ": the cursor of book " + book, x.bookOf(cursor), due);
            }
        }
        if (row.closed != NO_BOOK) {
            checkAllOfOneBook(row);
        }
    }

    private static void checkAllOfOneBook(Row row) {
        Arrivalbooks x = withPairsInAllBooks();
        for (int cursor = 0; cursor < 3; cursor++) {
            x.open(cursor, row.closed, cursor);
        }
        Expect.outcome(() -> row.change.on(x));
        for (int cursor = 0; cursor < 3; cursor++) {
            Expect.due(row.call + ": cursor " + cursor, x.bookOf(cursor), NO_BOOK);
        }
    }

    /** Of books that are full, and of a queue that is full or empty. */
    private static void refusalsCloseNone() {
        Class<?> full = IllegalStateException.class;
        Arrivalbooks x = new Arrivalbooks();
        x.open(2, 3, Arrivalbooks.KEYS);
        Expect.dueThrow(x, "poll() of an empty queue", java.util.NoSuchElementException.class,
                x::poll);
        Expect.fillUpTo(x, 0, 200);
        x.put(1, 500, 1);
        x.open(0, 0, Arrivalbooks.KEYS);
        x.open(1, 1, Arrivalbooks.KEYS);
        Expect.dueThrow(x, "put(0, 500, 1)", full, () -> x.put(0, 500, 1));
        Expect.dueThrow(x, "putNew(0, 500, 1)", full, () -> x.putNew(0, 500, 1));
        Expect.dueThrow(x, "add(0, 500, 1)", full, () -> x.add(0, 500, 1));
        Expect.dueThrow(x, "fill(0, 1, 1, 0)", full, () -> x.fill(0, 1, 1, 0));
        Expect.dueThrow(x, "pour(1, 0)", full, () -> x.pour(1, 0));
        Arrivalbooks y = new Arrivalbooks();
        for (int number = 0; number < 200; number++) {
            y.offer(number);
        }
        y.open(0, 3, Arrivalbooks.KEYS);
        Expect.dueThrow(y, "offer(500)", full, () -> y.offer(500));
        Expect.due("the cursor of the queue", y.bookOf(0), 3);
    }

    private static void oneCursorStaysOpen() {
        for (int book = 0; book < 3; book++) {
            for (int cursor = 0; cursor < 3; cursor++) {
                checkOthersClosed(book, cursor, true);
                checkOthersClosed(book, cursor, false);
            }
        }
    }

    private static void checkOthersClosed(int book, int cursor, boolean isRemoval) {
        Arrivalbooks x = withPairsInAllBooks();
        int same = (cursor + 1) % 3;
        int elsewhere = (cursor + 2) % 3;
        x.open(cursor, book, Arrivalbooks.PAIRS);
        x.open(same, book, Arrivalbooks.PAIRS);
        x.open(elsewhere, book + 1, Arrivalbooks.PAIRS);
        x.next(cursor);
        String call = (isRemoval ? "removeAt(" : "setAt(") + cursor + ") in book " + book;
        if (isRemoval) {
            x.removeAt(cursor);
        } else {
            x.setAt(cursor, 5);
        }
        Expect.due(call + ": by which it is made", x.bookOf(cursor), book);
        Expect.due(call + ": another of the book", x.bookOf(same), NO_BOOK);
        Expect.due(call + ": of another book", x.bookOf(elsewhere), book + 1);
        Expect.due(call + ": it goes on", x.next(cursor), 2);
    }

    private static void throwingCursorCallsCloseNone() {
        Arrivalbooks x = withPairsInAllBooks();
        x.open(0, 0, Arrivalbooks.PAIRS);
        x.open(1, 0, Arrivalbooks.KEYS);
        x.open(2, 3, Arrivalbooks.PAIRS);
        x.next(2);
        Expect.dueThrow(x, "removeAt(0)", IllegalStateException.class, () -> x.removeAt(0));
        Expect.dueThrow(x, "setAt(0, 1)", IllegalStateException.class, () -> x.setAt(0, 1));
        Expect.dueThrow(x, "setAt(1, 1)", IllegalArgumentException.class, () -> x.setAt(1, 1));
        Expect.dueThrow(x, "removeAt(2)", IllegalStateException.class, () -> x.removeAt(2));
        Expect.dueThrow(x, "setAt(2, 1)", IllegalStateException.class, () -> x.setAt(2, 1));
        x.next(0);
        x.next(0);
        Expect.dueThrow(x, "next(0)", java.util.NoSuchElementException.class, () -> x.next(0));
        x.open(0, 0, Arrivalbooks.KEYS);
        Expect.due("open() closes none", x.bookOf(1), 0);
    }
}
