/** What the promises 18 to 23 say of edges, sentence by sentence; "Throws ..": see Refusals. */
final class CursorsBoundaries {
    private static final String NO_MORE = "NoSuchElementException";
    private static final String NOT_NOW = "IllegalStateException";
    private static final int NONE = Arrivalbooks.NONE;
    private static final int MIN = Integer.MIN_VALUE;
    private static final int MAX = Integer.MAX_VALUE;
    private static final String[] CURSORS = {"0", "1", "2"};

    private CursorsBoundaries() {
    }

    static void check() {
        open();
        hasNext();
        next();
        removeAt();
        removeAtEdges();
        setAt();
        bookOf();
    }

    private static void open() {
        Document.section("Promise 18");
        Document.says("Opens a cursor (also one that is open), ahead of the first pair of a book");
        Run x = Run.with("put(0, 5, 50)", "put(1, 6, 60)").due("open(0, 0, KEYS)", 1).dueRest(0, 5);
        x.due("open(0, 0, KEYS)", 1).dueRest(0, 5).due("open(0, 1, VALUES)", 1).dueRest(0, 60);
        x.due("open(0, 1, PAIRS)", 1).due("next(0)", 6).due("open(0, 1, PAIRS)", 1);
        x.refused("setAt(0, 1)", NOT_NOW).due("next(0)", 6).due("setAt(0, 1)", 60);
        Document.says("`cursor`: a cursor");
        for (String cursor : CURSORS) {
            Run one = Run.with("put(2, 9, 9)").due("open(" + cursor + ", 2, KEYS)", 1);
            one.dueBooks(cursor.equals("0") ? 2 : NONE, cursor.equals("1") ? 2 : NONE,
                    cursor.equals("2") ? 2 : NONE);
        }
        Document.says("`book`: a book");
        Run books = Run.with("put(0, 0, 1)", "put(1, 1, 1)", "put(2, 2, 1)", "offer(3)");
        for (int book = 0; book < 4; book++) {
            books.due("open(1, " + book + ", KEYS)", 1).due("bookOf(1)", book).dueRest(1, book);
        }
        Document.says("`kind`: KEYS to PAIRS");
        Run kinds = Run.with("put(0, 3, 4)").due("open(0, 0, KEYS)", 1).dueRest(0, 3);
        kinds.due("open(0, 0, VALUES)", 1).dueRest(0, 4).due("open(0, 0, PAIRS)", 1).dueRest(0, 3);
        Document.says("Returns how many pairs the book has");
        new Run().due("open(0, 0, KEYS)", 0).due("open(0, 2, VALUES)", 0)
                .due("open(0, 3, PAIRS)", 0).filled(1, 200).due("open(0, 1, KEYS)", 200)
                .made("rebind(40)", "fill(2, 0, 1, 60)")
                .due("open(0, 2, KEYS)", 40).made("offer(1)").due("open(0, 3, KEYS)", 1);
    }

    private static void hasNext() {
        Document.section("Promise 19");
        Document.says("Tells whether a cursor has a next one");
        Run full = new Run().filled(0, 200).made("open(0, 0, VALUES)");
        for (int place = 0; place < 200; place++) {
            full.due("hasNext(0)", true).made("next(0)");
        }
        full.due("hasNext(0)", false).due("hasNext(0)", false);
        Document.says("`cursor`: a cursor");
        for (String cursor : CURSORS) {
            Run.with("put(2, 9, 9)", "open(" + cursor + ", 2, KEYS)")
                    .due("hasNext(" + cursor + ")", true);
        }
        Document.says("Returns whether it has");
        for (int book = 0; book < 4; book++) {
            Run.with("open(0, " + book + ", KEYS)").changesNothing("hasNext(0)", false);
        }
        Run.with("put(0, 1, 1)", "open(0, 0, PAIRS)").changesNothing("hasNext(0)", true)
                .made("next(0)").changesNothing("hasNext(0)", false)
                .due("removeAt(0)", 0).changesNothing("hasNext(0)", false);
    }

    private static void next() {
        Document.section("Promise 20");
        Document.says("Goes on with a cursor");
        Run x = Run.with("put(0, 1, 10)", "put(0, 2, 20)", "open(0, 0, PAIRS)", "open(1, 0, KEYS)");
        x.due("next(0)", 1).due("next(0)", 2).refused("next(0)", NO_MORE).due("next(1)", 1);
        x.due("setAt(0, 21)", 20).refused("next(0)", NO_MORE).duePairs(0, "1=10 2=21");
        x.due("removeAt(0)", 1).refused("next(0)", NO_MORE).duePairs(0, "1=10");
        Document.says("`cursor`: a cursor");
        for (String cursor : CURSORS) {
            Run.with("put(2, 9, 9)", "open(" + cursor + ", 2, KEYS)")
                    .due("next(" + cursor + ")", 9);
        }
        Document.says("Returns the key it goes to");
        for (String kind : new String[] {"KEYS", "PAIRS"}) {
            Run.with("put(0, MIN, 1)", "put(0, 0, 2)", "put(0, -1, 3)", "put(0, MAX, 4)")
                    .made("open(2, 0, " + kind + ")").dueRest(2, MIN, 0, -1, MAX);
        }
        Document.says("of a cursor of values the value");
        Run.with("put(2, 1, MIN)", "put(2, 2, 0)", "put(2, 3, -1)", "put(2, 4, MAX)")
                .made("open(2, 2, VALUES)").dueRest(2, MIN, 0, -1, MAX);
        Run.with("offer(7)", "offer(7)", "open(0, 3, VALUES)").dueRest(0, 2);
    }

    private static void removeAt() {
        Document.section("Promise 21");
        Document.says("Removes from its book the pair to which a cursor went last");
        Run full = new Run().filled(1, 200).made("open(0, 1, KEYS)");
        for (int key = 0; key < 200; key++) {
            full.due("next(0)", key).due("removeAt(0)", 199 - key);
        }
        full.due("hasNext(0)", false).due("size(1)", 0).due("errors()", 0);
        Document.says("`cursor`: a cursor of another book than 3");
        for (String cursor : CURSORS) {
            for (int book = 0; book < 3; book++) {
                Run.with("put(" + book + ", 9, 9)", "open(" + cursor + ", " + book + ", VALUES)")
                        .made("next(" + cursor + ")").due("removeAt(" + cursor + ")", 0)
                        .due("size(" + book + ")", 0).due("bookOf(" + cursor + ")", book);
            }
        }
        Document.says("Returns how many pairs the book has then");
        new Run().filled(0, 200).made("open(0, 0, PAIRS)", "next(0)").due("removeAt(0)", 199)
                .dueEnds(0, 199, "1=0", "199=0");
        Run.with("rebind(40)", "fill(2, 0, 1, 40)", "open(0, 2, PAIRS)", "next(0)")
                .due("removeAt(0)", 39).made("put(2, 0, 0)").dueEnds(2, 40, "1=0", "0=0");
    }

    private static void removeAtEdges() {
        Document.says("Removes from its book the pair to which a cursor went last");
        String[] pairs = {"put(0, MIN, 1)", "put(0, 0, 2)", "put(0, MAX, 3)", "open(0, 0, PAIRS)"};
        Run.with(pairs).made("next(0)").due("removeAt(0)", 2).duePairs(0, "0=2 MAX=3")
                .dueRest(0, 0, MAX).due("removeAt(0)", 1).duePairs(0, "0=2");
        Run.with(pairs).made("next(0)", "next(0)").due("removeAt(0)", 2)
                .duePairs(0, "MIN=1 MAX=3").dueRest(0, MAX);
        Run.with(pairs).made("next(0)", "next(0)", "next(0)").due("removeAt(0)", 2)
                .duePairs(0, "MIN=1 0=2").dueRest(0);
        // A next() that is refused leaves the cursor on the last pair.
        Run.with(pairs).dueRest(0, MIN, 0, MAX).refused("next(0)", NO_MORE).due("removeAt(0)", 2)
                .duePairs(0, "MIN=1 0=2").refused("removeAt(0)", NOT_NOW);
    }

    private static void setAt() {
        Document.section("Promise 22");
        Document.says("Gives another value to the pair to which a cursor of pairs went last");
        Run full = new Run().filled(0, 200).made("open(0, 0, PAIRS)", "next(0)", "setAt(0, MIN)");
        for (int place = 1; place < 200; place++) {
            full.made("next(0)");
        }
        full.due("setAt(0, MAX)", 0).dueEnds(0, 200, "0=MIN", "199=MAX").due("hasNext(0)", false);
        Document.says("`cursor`: a cursor of another book than 3");
        for (String cursor : CURSORS) {
            for (int book = 0; book < 3; book++) {
                Run.with("put(" + book + ", 9, 8)", "open(" + cursor + ", " + book + ", PAIRS)")
                        .made("next(" + cursor + ")").due("setAt(" + cursor + ", 5)", 8)
                        .duePairs(book, "9=5").due("bookOf(" + cursor + ")", book);
            }
        }
        Document.says("`value`: the value");
        Run values = Run.with("put(2, 1, 7)", "open(0, 2, PAIRS)", "next(0)");
        for (String value : Edges.INTS) {
            values.made("setAt(0, " + value + ")").duePairs(2, "1=" + value);
        }
        Document.says("Returns the value before");
        Run.with("put(0, 1, MIN)", "put(0, 2, 5)", "open(0, 0, PAIRS)", "next(0)")
                .due("setAt(0, MAX)", MIN).due("setAt(0, MAX)", MAX).due("setAt(0, 0)", MAX)
                .due("setAt(0, -1)", 0).due("next(0)", 2).due("setAt(0, 6)", 5)
                .refused("next(0)", NO_MORE).due("setAt(0, 7)", 6).duePairs(0, "1=-1 2=7");
    }

    private static void bookOf() {
        Document.section("Promise 23");
        Document.says("Returns the book of a cursor");
        Run x = new Run();
        for (int book = 0; book < 4; book++) {
            x.made("open(2, " + book + ", KEYS)").changesNothing("bookOf(2)", book);
        }
        Document.says("`cursor`: a cursor");
        for (String cursor : CURSORS) {
            Run.with("open(" + cursor + ", 3, KEYS)").due("bookOf(" + cursor + ")", 3);
        }
        Document.says("Returns the book; NONE if it is closed");
        Run.with("offer(1)").dueBooks(NONE, NONE, NONE).made("open(0, 3, KEYS)", "open(1, 0, KEYS)")
                .dueBooks(3, 0, NONE).made("poll()").dueBooks(NONE, 0, NONE).made("clear(0)")
                .dueBooks(NONE, NONE, NONE);
        Run.with("put(0, 1, 1)", "open(0, 0, KEYS)", "open(1, 0, KEYS)", "next(1)", "removeAt(1)")
                .dueBooks(NONE, 0, NONE).made("hasNext(1)")
                .dueBooks(NONE, 0, NONE);
    }
}
