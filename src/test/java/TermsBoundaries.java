/** What 'What it is' and 'Terms' say of edges, sentence by sentence. */
final class TermsBoundaries {
    private static final String NO_PLACE = "IndexOutOfBoundsException";
    private static final String WRONG = "IllegalArgumentException";
    private static final String NOT_NOW = "IllegalStateException";
    private static final int NONE = Arrivalbooks.NONE;

    private TermsBoundaries() {
    }

    static void check() {
        Document.section("What it is");
        allOfIt();
        manyCalls();
        Document.section("Terms");
        fourBooks();
        pairsOfInts();
        noDoubles();
        atMost200Pairs();
        asManyAsTheBoundTells();
        bounds();
        newKeysComeLast();
        oldKeysKeepTheirPlaces();
        theFirstPairIsGone();
        valuesGoRound();
        exceptions();
        theBookOfTheQueue();
        threeCursors();
        cursorsGoThroughBooks();
        callsCloseCursors();
        cursorsCloseOthers();
        constants();
        headings();
    }

    private static void allOfIt() {
        Document.says("Books of arrivals: pairs that stay where they first came, a book with a");
        Run x = Run.with("rebind(1)", "put(0, 2, 5)", "put(0, 1, 6)", "put(0, 2, 7)", "copy(0, 1)");
        x.made("pour(0, 2)", "offer(4)", "offer(4)", "open(2, 1, PAIRS)");
        x.duePairs(0, "2=7 1=6").duePairs(1, "2=7 1=6").duePairs(2, "1=6").duePairs(3, "4=2");
        x.dueRest(2, 2, 1);
    }

    private static void manyCalls() {
        Document.says("used for at most 512 calls after it has been made");
        Run queue = new Run().offered(200);
        for (int call = 0; call < 311; call++) {
            queue.due("toEnd(" + call % 200 + ")", 0);
        }
        // 311 is once round, and 111 more.
        queue.due("keyAt(3, 0)", 111);
        Run inAndOut = new Run();
        for (int round = 0; round < 256; round++) {
            inAndOut.due("offer(5)", true).due("poll()", 5);
        }
        Run books = new Run().filled(0, 200).made("rebind(40)");
        for (int call = 0; call < 506; call++) {
            books.due(call % 2 == 0 ? "pour(0, 2)" : "copy(0, 1)", call % 2 == 0 ? 40 : 200);
        }
        books.due("errors()", 0);
    }

    private static void fourBooks() {
        Document.says("There are the books 0 to 3, empty at first");
        for (String book : new String[] {"0", "1", "2", "3"}) {
            Run x = new Run();
            for (String[] row : Edges.QUESTIONS_OF_AN_EMPTY_BOOK) {
                x.due(row[0].replace("#", book), row[1]);
            }
            x.refused("keyAt(" + book + ", 0)", NO_PLACE).dueOutput("{}");
            x.refused("valueAt(" + book + ", 0)", NO_PLACE);
        }
        for (String none : Edges.NO_BOOKS) {
            new Run().refused("size(" + none + ")", NO_PLACE);
        }
        Document.says("0 and 1 are plain, 2 is bounded, 3 is the book of the queue");
        Run x = new Run().due("putNew(0, 1, 1)", 1).due("putNew(1, 1, 1)", 1);
        x.refused("putNew(2, 1, 1)", WRONG).refused("putNew(3, 1, 1)", WRONG);
        x.due("fill(0, 5, 1, 60)", 61).due("fill(1, 5, 1, 60)", 61).due("fill(2, 5, 1, 60)", 8);
        x.due("offer(1)", true).duePairs(3, "1=1").due("size(0)", 61).due("size(2)", 8);
    }

    private static void pairsOfInts() {
        Document.says("A pair has a key and a value, ints");
        for (int book = 0; book < 3; book++) {
            Run x = new Run();
            String put = "put(" + book + ", ";
            x.made(put + "MIN, MAX)", put + "MAX, MIN)", put + "0, 0)", put + "-1, -1)");
            x.duePairs(book, "MIN=MAX MAX=MIN 0=0 -1=-1");
        }
        new Run().made(Calls.each(Edges.INTS, "offer(#)")).duePairs(3, "MIN=1 -1=1 0=1 1=1 MAX=1");
    }

    private static void noDoubles() {
        Document.says("no two pairs of a book have the same key");
        for (String key : Edges.INTS) {
            Run x = Run.with(Calls.each(new String[] {key}, "put(0, #, 5)"));
            x.made("put(0, " + key + ", 6)", "putNew(0, " + key + ", 7)", "add(0, " + key + ", 1)");
            x.made("fill(1, " + key + ", 0, 60)", "pour(0, 1)", "pour(0, 2)", "pour(1, 2)");
            x.made("offer(" + key + ")", "offer(" + key + ")", "toEnd(" + key + ")");
            x.duePairs(0, key + "=7").duePairs(1, key + "=7");
            x.duePairs(2, key + "=7").duePairs(3, key + "=2");
        }
    }

    private static void atMost200Pairs() {
        Document.says("A book has at most 200 pairs");
        for (String call : Edges.CALLS_BY_WHICH_A_KEY_COMES) {
            for (String book : new String[] {"0", "1"}) {
                Run x = new Run().filled(Integer.parseInt(book), 199);
                x.made(call.replace("@", book).replace("#", "199")).due("size(" + book + ")", 200);
                x.refused(call.replace("@", book).replace("#", "200"), NOT_NOW);
            }
        }
        new Run().filled(0, 140).due("fill(0, 140, 1, 60)", 200);
        new Run().filled(0, 199).made("put(1, 199, 5)").due("pour(1, 0)", 200)
                .dueEnds(0, 200, "0=0", "199=5").due("copy(0, 1)", 200)
                .dueEnds(1, 200, "0=0", "199=5").made("remove(1, 0)", "put(1, 200, 6)")
                .refused("pour(1, 0)", NOT_NOW);
        new Run().offered(199).due("offer(199)", true).due("size(3)", 200)
                .refused("offer(200)", NOT_NOW).due("offer(199)", false);
    }

    private static void asManyAsTheBoundTells() {
        Document.says("(the bounded one as many as its bound tells)");
        for (int bound : Edges.BOUNDS) {
            Run x = Run.with("rebind(" + bound + ")");
            x.due("fill(2, 1, 1, " + (bound - 1) + ")", bound - 1);
            x.due("put(2, -1, 5)", false).due("size(2)", bound);
            x.due("put(2, -2, 6)", false).due("size(2)", bound);
            x.due("fill(2, 0, 1, 60)", bound);
            x.filled(0, 200).due("pour(0, 2)", bound);
            fullBoundedBook(bound);
        }
    }

    /** What leaves a place makes room for one more, which lets no pair go; nothing else does. */
    private static void fullBoundedBook(int bound) {
        Run x = Run.with("rebind(" + bound + ")", "fill(2, 1, 1, " + bound + ")");
        x.due("replace(2, 1, 5)", true).due("addToAll(2, 1)", bound).due("replace(2, 0, 5)", false);
        x.due("put(2, 1, 7)", true).due("size(2)", bound).due("remove(2, 1)", 7);
        x.due("size(2)", bound - 1).due("put(2, 0, 8)", false).due("size(2)", bound);
        x.due("removePair(2, 0, 8)", true).due("put(2, 0, 9)", false).due("size(2)", bound);
        x.made("open(0, 2, PAIRS)", "next(0)").due("setAt(0, 3)", bound == 1 ? 9 : 1);
        x.due("removeAt(0)", bound - 1).due("put(2, -1, 4)", false).due("size(2)", bound);
        x.due("clear(2)", bound).due("fill(2, 1, 1, 60)", bound).due("errors()", 0);
    }

    private static void bounds() {
        Document.says("The bound is 1 to 40, 8 at first");
        new Run().due("fill(2, 0, 1, 8)", 8).due("keyAt(2, 0)", 0);
        new Run().due("fill(2, 0, 1, 9)", 8).due("keyAt(2, 0)", 1);
        Run.with("rebind(1)").due("fill(2, 0, 1, 60)", 1).due("keyAt(2, 0)", 59);
        Run.with("rebind(40)").due("fill(2, 0, 1, 60)", 40).due("keyAt(2, 0)", 20);
        new Run().refused("rebind(0)", WRONG).refused("rebind(41)", WRONG);
    }

    private static void newKeysComeLast() {
        Document.says("A key that is not there comes at the end of the book");
        for (String call : Edges.CALLS_BY_WHICH_A_KEY_COMES) {
            Run empty = Run.with(call.replace("@", "0").replace("#", "MAX"));
            empty.made(call.replace("@", "0").replace("#", "MIN"));
            empty.due("keyAt(0, 0)", Integer.MAX_VALUE).due("keyAt(0, 1)", Integer.MIN_VALUE);
            Run full = new Run().filled(0, 200).made("remove(0, 0)");
            full.made(call.replace("@", "0").replace("#", "0")).due("placeOf(0, 0)", 199);
            full.made("remove(0, 0)", call.replace("@", "0").replace("#", "0"));
            full.due("placeOf(0, 0)", 199).due("placeOf(0, 1)", 0);
        }
        Run.with("put(1, 7, 7)", "put(1, 3, 3)", "put(0, 3, 4)", "put(0, 7, 8)")
                .made("rebind(2)", "put(2, 1, 1)", "pour(1, 2)", "pour(0, 2)")
                .duePairs(2, "7=8 3=4");
        Run.with("offer(5)", "offer(4)", "poll()", "offer(5)").duePairs(3, "4=1 5=1");
    }

    private static void oldKeysKeepTheirPlaces() {
        Document.says("a key that is there keeps its place");
        for (int key : new int[] {0, 100, 199}) {
            Run x = new Run().filled(0, 200).due("put(0, " + key + ", 6)", true);
            x.due("putNew(0, " + key + ", 7)", 6).due("add(0, " + key + ", 2)", 8);
            x.due("replace(0, " + key + ", 9)", true).due("halve(0, " + key + ")", true);
            x.due("addToAll(0, 1)", 200).due("put(1, " + key + ", 3)", false);
            x.due("pour(1, 0)", 200).due("placeOf(0, " + key + ")", key);
            x.due("valueAt(0, " + key + ")", 3).dueEnds(1, 1, key + "=3", key + "=3");
        }
        new Run().filled(0, 140).due("fill(0, 139, -1, 60)", 140).dueEnds(0, 140, "0=0", "139=0");
        new Run().offered(200).due("offer(0)", false).due("offer(199)", false)
                .dueEnds(3, 200, "0=2", "199=2");
        Run.with("rebind(2)", "put(2, 1, 1)", "put(2, 2, 2)", "put(2, 1, 3)", "put(2, 2, 4)")
                .duePairs(2, "1=3 2=4").made("fill(2, 1, 0, 60)").duePairs(2, "1=0 2=4");
    }

    private static void theFirstPairIsGone() {
        Document.says("if there are more pairs than its bound then, the first pair is gone");
        for (int bound : Edges.BOUNDS) {
            Run x = Run.with("rebind(" + bound + ")", "fill(2, 1, 1, " + bound + ")");
            x.dueEnds(2, bound, "1=0", bound + "=0");
            x.due("put(2, 1, 5)", true).due("put(2, " + bound + ", 6)", true);
            x.due("size(2)", bound).due("hasKey(2, 1)", true);
            x.due("put(2, MIN, 7)", false).due("size(2)", bound).due("hasKey(2, 1)", false);
            x.due("keyAt(2, 0)", bound == 1 ? Integer.MIN_VALUE : 2);
            x.due("keyAt(2, " + (bound - 1) + ")", Integer.MIN_VALUE);
            x.due("put(2, 1, 8)", false).due("placeOf(2, 1)", bound - 1).due("errors()", 0);
        }
        Document.says("Behind a key that came into the bounded book");
        Run.with("rebind(1)", "put(2, 7, 1)").due("replace(2, 7, 2)", true)
                .due("put(2, 7, 3)", true).due("addToAll(2, 1)", 1).due("fill(2, 7, 0, 60)", 1)
                .duePairs(2, "7=0");
    }

    private static void valuesGoRound() {
        Document.says("Values are ints that go round");
        for (int book = 0; book < 3; book++) {
            Run x = Run.with("put(" + book + ", 1, MAX)", "put(" + book + ", 2, MIN)");
            x.due("addToAll(" + book + ", 1)", 2).duePairs(book, "1=MIN 2=-2147483647");
            x.due("addToAll(" + book + ", -2)", 2).duePairs(book, "1=2147483646 2=MAX");
            x.due("addToAll(" + book + ", MIN)", 2).duePairs(book, "1=-2 2=-1");
        }
        Run.with("put(1, 1, MAX)").due("add(1, 1, 1)", Integer.MIN_VALUE)
                .due("add(1, 1, -1)", Integer.MAX_VALUE).due("add(1, 1, MAX)", -2)
                .due("get(1, 1, 0)", -2);
    }

    private static void exceptions() {
        Document.says("If several exceptions apply to a call, the one that is listed first");
        new Run().refused("fill(4, 0, 1, 61)", NO_PLACE).filled(0, 141)
                .refused("fill(0, 0, 1, 61)", WRONG).refused("fill(0, 0, 1, 60)", NOT_NOW);
        Document.says("a call that throws an exception changes nothing");
        Run.with("put(0, 1, 1)", "put(2, 2, 2)", "offer(3)", "write(0)")
                .refused("fill(2, 5, 1, 61)", WRONG).refused("write(4)", NO_PLACE)
                .refused("open(0, 0, 3)", WRONG).refused("toEnd(4)", "NoSuchElementException");
        new Run().filled(0, 161).made("rebind(40)", "fill(2, 160, 1, 41)")
                .refused("put(3, 1, 1)", WRONG).made("put(0, 500, 1)")
                .refused("pour(2, 0)", NOT_NOW);
        Document.says("is thrown for a book, a cursor or a place that does not exist");
        Run x = Run.with("put(0, 5, 1)");
        for (String none : Edges.NO_BOOKS) {
            x.refused("hasKey(" + none + ", 5)", NO_PLACE);
        }
        for (String none : Edges.NO_CURSORS) {
            x.refused("bookOf(" + none + ")", NO_PLACE);
        }
        for (String none : new String[] {"-1", "1", "MIN", "MAX"}) {
            x.refused("keyAt(0, " + none + ")", NO_PLACE);
        }
    }

    private static void theBookOfTheQueue() {
        Document.says("also for the book 3 where it can't be changed by hand");
        Run x = Run.with("offer(1)", "offer(2)", "put(0, 1, 1)");
        for (String call : Edges.CHANGES_BY_HAND) {
            x.refused(call.replace("@", "3"), WRONG);
        }
        Document.says("all changes of it but by the calls of the queue");
        x.duePairs(3, "1=1 2=1").due("offer(1)", false).due("toEnd(1)", 0).due("poll()", 2);
        x.due("pour(3, 0)", 1).due("copy(3, 1)", 1).duePairs(3, "1=2");
        Document.says("for cursors as told there");
        x.due("open(0, 3, PAIRS)", 1).due("next(0)", 1);
        x.refused("removeAt(0)", NOT_NOW).refused("setAt(0, 5)", NOT_NOW);
    }

    private static void threeCursors() {
        Document.says("There are the cursors 0 to 2, closed at first");
        Run x = Run.with("put(0, 1, 1)").dueBooks(NONE, NONE, NONE);
        for (String cursor : new String[] {"0", "1", "2"}) {
            x.refused("hasNext(" + cursor + ")", NOT_NOW).refused("next(" + cursor + ")", NOT_NOW);
            x.due("open(" + cursor + ", 0, KEYS)", 1);
        }
        x.dueBooks(0, 0, 0);
        for (String none : Edges.NO_CURSORS) {
            x.refused("open(" + none + ", 0, KEYS)", NO_PLACE);
        }
    }

    private static void cursorsGoThroughBooks() {
        Document.says("the keys, the values or the pairs of a book, from the first one on");
        Run x = Run.with("put(0, MIN, MAX)", "put(0, 7, 70)", "put(0, MAX, MIN)");
        x.made("open(0, 0, KEYS)", "open(1, 0, VALUES)", "open(2, 0, PAIRS)");
        x.dueRest(0, Integer.MIN_VALUE, 7, Integer.MAX_VALUE);
        x.dueRest(1, Integer.MAX_VALUE, 70, Integer.MIN_VALUE);
        x.dueRest(2, Integer.MIN_VALUE, 7, Integer.MAX_VALUE);
        for (int book = 0; book < 4; book++) {
            Run.with("open(1, " + book + ", PAIRS)").dueRest(1);
        }
        Run full = new Run().filled(1, 200).made("open(2, 1, KEYS)");
        for (int key = 0; key < 200; key++) {
            full.due("next(2)", key);
        }
        full.dueRest(2);
    }

    private static void callsCloseCursors() {
        Document.says("does not throw an exception closes all cursors of the book");
        for (String[] row : Edges.CLOSING_ROWS) {
            Run x = Run.with("put(0, 1, 4)", "put(1, 2, 4)", "put(2, 3, 4)");
            x.made("offer(1)", "offer(2)");
            checkClosed(x, row[0], Integer.parseInt(row[1]));
        }
        Run.with("put(0, 1, 4)", "open(0, 0, KEYS)").refused("put(3, 1, 1)", WRONG)
                .refused("fill(0, 0, 1, -1)", WRONG).refused("pour(0, 0)", WRONG)
                .refused("remove(0, 9)", "NoSuchElementException").dueBooks(0, NONE, NONE);
        Document.says("even if nothing changes by it");
        for (String[] row : Edges.ROWS_THAT_CHANGE_NOTHING) {
            checkClosed(Run.with("offer(1)"), row[0], Integer.parseInt(row[1]));
        }
        for (String[] row : Edges.ROWS_THAT_CHANGE_NO_PAIR) {
            Run x = Run.with("put(0, 1, 4)", "put(1, 1, 4)", "put(2, 1, 4)");
            checkClosed(x, row[0], Integer.parseInt(row[1]));
        }
        Document.says("of pour() and copy(), those of the other book");
        Run.with("put(0, 1, 1)", "open(0, 0, KEYS)", "open(1, 2, KEYS)", "open(2, 1, KEYS)")
                .due("pour(0, 2)", 1).dueBooks(0, NONE, 1)
                .due("copy(0, 1)", 1).dueBooks(0, NONE, NONE);
    }

    private static void checkClosed(Run x, String call, int book) {
        int another = (book + 1) % 4;
        x.made("open(0, " + book + ", KEYS)", "open(1, " + another + ", KEYS)");
        x.made("open(2, " + book + ", PAIRS)", call).dueBooks(NONE, another, NONE);
    }

    private static void cursorsCloseOthers() {
        Document.says("all cursors of their book but the one by which they are made");
        for (String call : new String[] {"removeAt(#)", "setAt(#, 1)"}) {
            for (int cursor = 0; cursor < 3; cursor++) {
                Run x = Run.with("put(2, 1, 1)", "open(0, 2, PAIRS)", "open(1, 2, PAIRS)");
                x.made("open(2, 2, PAIRS)", "next(" + cursor + ")");
                x.made(call.replace("#", "" + cursor));
                x.dueBooks(cursor == 0 ? 2 : NONE, cursor == 1 ? 2 : NONE, cursor == 2 ? 2 : NONE);
            }
            Run.with("put(0, 1, 1)", "open(0, 0, PAIRS)", "open(1, 1, PAIRS)", "open(2, 3, PAIRS)")
                    .made("next(0)", call.replace("#", "0")).dueBooks(0, 1, 3);
        }
    }

    private static void constants() {
        Document.says("`NONE = -1`: There is none");
        Expect.due("NONE", NONE, -1);
        new Run().due("placeOf(0, 0)", -1).due("bookOf(0)", -1);
        Document.says("`KEYS = 0, VALUES = 1, PAIRS = 2`: Kinds of cursors");
        Expect.due("KEYS", Arrivalbooks.KEYS, 0);
        Expect.due("VALUES", Arrivalbooks.VALUES, 1);
        Expect.due("PAIRS", Arrivalbooks.PAIRS, 2);
        Run.with("put(0, 3, 4)", "open(0, 0, 0)", "open(1, 0, 1)", "open(2, 0, 2)")
                .due("next(0)", 3).due("next(1)", 4).due("next(2)", 3).due("setAt(2, 5)", 4);
    }

    private static void headings() {
        Document.says("the queue without doubles: the keys of the book 3, in their order");
        Run x = Run.with("offer(MAX)", "offer(MIN)", "offer(MAX)").due("poll()", Integer.MAX_VALUE);
        Document.says("how often it was offered since it came, 1 as it comes");
        x.due("valueAt(3, 0)", 1).made("offer(MIN)").due("valueAt(3, 0)", 2);
        x.made("offer(MAX)").due("get(3, MAX, 0)", 1);
        // The headings of the other parts of the interface ask for nothing.
        Document.says("the interface says: ---- books");
        Document.says("the interface says: ---- cursors");
        Document.says("the interface says: ---- questions");
    }
}
