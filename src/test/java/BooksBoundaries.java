/** What the promises 1 to 14 say of edges, sentence by sentence; "Throws ..": see Refusals. */
final class BooksBoundaries {
    private static final int NONE = Arrivalbooks.NONE;
    private static final int MIN = Integer.MIN_VALUE;
    private static final int MAX = Integer.MAX_VALUE;

    private BooksBoundaries() {
    }

    static void check() {
        newObject();
        rebind();
        put();
        putNew();
        add();
        halve();
        addToAll();
        replace();
        remove();
        removePair();
        fill();
        fillGoesRound();
        pour();
        pourIntoTheBoundedBook();
        copy();
        clear();
    }

    private static void newObject() {
        Document.section("Promise 1");
        Document.says("Creates empty books, with the bound 8, and closed cursors");
        Run x = new Run().dueBooks(NONE, NONE, NONE);
        for (int book = 0; book < 4; book++) {
            x.due("size(" + book + ")", 0);
        }
        x.due("fill(2, 0, 1, 7)", 7).due("put(2, 7, 0)", false).dueEnds(2, 8, "0=0", "7=0");
        x.due("put(2, 8, 0)", false).dueEnds(2, 8, "1=0", "8=0");
    }

    private static void rebind() {
        Document.section("Promise 2");
        Document.says("Empties the bounded book, and sets its bound");
        for (int bound : Edges.BOUNDS) {
            Run x = Run.with("put(0, 1, 1)", "offer(1)", "fill(2, 0, 1, 8)");
            x.due("rebind(" + bound + ")", 8).due("size(2)", 0).due("placeOf(2, 7)", NONE);
            x.due("size(0)", 1).due("size(3)", 1).due("fullness()", 0.0f);
            x.due("fill(2, 0, 1, 60)", bound).due("rebind(" + bound + ")", bound);
            x.due("size(2)", 0).due("fill(2, 0, 1, 60)", bound);
        }
        Document.says("`bound`: 1 to 40");
        for (int bound = 1; bound <= 40; bound++) {
            String first = bound == 1 ? "-1=0" : "1=0";
            Run.with("rebind(" + bound + ")").due("fill(2, 0, 1, " + bound + ")", bound)
                    .due("put(2, -1, 0)", false).dueEnds(2, bound, first, "-1=0");
        }
        Document.says("Returns how many pairs it had");
        new Run().due("rebind(1)", 0).made("put(2, 1, 1)", "put(2, 2, 2)").due("rebind(40)", 1)
                .made("fill(2, 0, 1, 60)").due("rebind(40)", 40).due("rebind(8)", 0);
    }

    private static void put() {
        Document.section("Promise 3");
        Document.says("Puts a pair into a book, or another value to a key that is there");
        new Run().due("put(0, 0, 0)", false).due("put(0, 0, 5)", true).duePairs(0, "0=5");
        new Run().filled(1, 199).due("put(1, 199, 7)", false).due("put(1, 199, 8)", true)
                .due("put(1, 0, 9)", true).dueEnds(1, 200, "0=9", "199=8");
        Document.says("`book`: a book");
        for (int book = 0; book < 3; book++) {
            Run x = new Run().due("put(" + book + ", 3, 4)", false).duePairs(book, "3=4");
            x.due("size(" + (book + 1) % 3 + ")", 0).due("size(" + (book + 2) % 3 + ")", 0);
        }
        Document.says("`key`: the key");
        Run keys = new Run();
        for (String key : Edges.INTS) {
            keys.due("put(0, " + key + ", 2)", false).due("put(0, " + key + ", 3)", true);
        }
        keys.duePairs(0, "MIN=3 -1=3 0=3 1=3 MAX=3");
        Document.says("`value`: the value");
        Run values = new Run();
        for (String value : Edges.INTS) {
            values.made("put(1, 5, " + value + ")").duePairs(1, "5=" + value);
        }
        Document.says("Returns whether the key was there");
        new Run().due("put(0, 1, 0)", false).due("put(0, 1, 0)", true).due("put(1, 1, 0)", false)
                .made("remove(0, 1)").due("put(0, 1, 0)", false)
                .made("rebind(1)").due("put(2, 1, 0)", false).due("put(2, 1, 0)", true)
                .due("put(2, 2, 0)", false).due("put(2, 1, 0)", false);
    }

    private static void putNew() {
        Document.section("Promise 4");
        Document.says("Puts a pair into a plain book, unless the key is there");
        new Run().due("putNew(0, 0, 0)", 0).due("putNew(0, 0, 5)", 0).duePairs(0, "0=0");
        new Run().filled(0, 199).due("putNew(0, 199, 7)", 7).due("putNew(0, 199, 8)", 7)
                .due("putNew(0, 0, 9)", 0).dueEnds(0, 200, "0=0", "199=7");
        Document.says("`book`: a plain book");
        Run.with("putNew(0, 1, 2)").due("size(1)", 0).due("putNew(1, 1, 3)", 3).duePairs(0, "1=2");
        Document.says("`key`: the key");
        Run keys = new Run();
        for (String key : Edges.INTS) {
            keys.due("putNew(1, " + key + ", 2)", 2).due("putNew(1, " + key + ", 3)", 2);
        }
        keys.duePairs(1, "MIN=2 -1=2 0=2 1=2 MAX=2");
        Document.says("`value`: the value");
        Run values = new Run();
        for (String value : Edges.INTS) {
            values.made("putNew(0, 5, " + value + ")").duePairs(0, "5=" + value).made("clear(0)");
        }
        Document.says("Returns the value that the key has then");
        new Run().due("putNew(0, 1, MIN)", MIN).due("putNew(0, 1, MAX)", MIN)
                .due("putNew(0, 2, MAX)", MAX).due("putNew(0, 2, MIN)", MAX).made("remove(0, 1)")
                .due("putNew(0, 1, 0)", 0).due("putNew(0, 1, -1)", 0);
    }

    private static void add() {
        Document.section("Promise 5");
        Document.says("Adds a number to the value of a key in a plain book");
        new Run().filled(0, 200).due("add(0, 199, 5)", 5).due("add(0, 0, -5)", -5)
                .due("add(0, 0, 5)", 0).due("add(0, 199, 0)", 5).dueEnds(0, 200, "0=0", "199=5");
        Document.says("a key that is not there comes with the number as its value");
        new Run().due("add(0, 1, 0)", 0).duePairs(0, "1=0").due("add(0, 2, MIN)", MIN)
                .duePairs(0, "1=0 2=MIN");
        new Run().filled(1, 199).due("add(1, 199, -3)", -3).dueEnds(1, 200, "0=0", "199=-3");
        Document.says("`book`: a plain book");
        Run.with("add(0, 1, 2)").due("size(1)", 0).due("add(1, 1, 3)", 3).duePairs(0, "1=2");
        Document.says("`key`: the key");
        Run keys = new Run();
        for (String key : Edges.INTS) {
            keys.due("add(1, " + key + ", 2)", 2).due("add(1, " + key + ", 3)", 5);
        }
        keys.duePairs(1, "MIN=5 -1=5 0=5 1=5 MAX=5");
        Document.says("`number`: the number");
        for (String number : Edges.INTS) {
            Run.with("add(0, 5, " + number + ")").duePairs(0, "5=" + number);
        }
        Document.says("Returns the value that the key has then");
        new Run().due("add(0, 1, MAX)", MAX).due("add(0, 1, 1)", MIN).due("add(0, 1, -1)", MAX)
                .due("add(0, 1, MAX)", -2).due("add(0, 1, MIN)", MAX - 1)
                .due("add(0, 2, MIN)", MIN).due("add(0, 2, MIN)", 0).due("size(0)", 2);
    }

    private static void halve() {
        Document.section("Promise 6");
        Document.says("Halves the value of a key in a plain book (toward 0)");
        int[] halves = {MIN, -1073741824, -2147483647, -1073741823, -3, -1, -2, -1, 2, 1, 3, 1,
            MAX, 1073741823};
        for (int i = 0; i < halves.length; i += 2) {
            Run.with("put(1, 5, " + halves[i] + ")").due("halve(1, 5)", true)
                    .duePairs(1, "5=" + halves[i + 1]);
        }
        Document.says("if it is 0 then, the pair is gone");
        for (String value : new String[] {"-1", "0", "1"}) {
            Run.with("put(0, 5, " + value + ")").due("halve(0, 5)", false).due("size(0)", 0);
        }
        new Run().filled(0, 200).due("halve(0, 199)", false).due("halve(0, 0)", false)
                .dueEnds(0, 198, "1=0", "198=0");
        Document.says("`book`: a plain book");
        Run.with("put(0, 1, 2)", "put(1, 1, 9)").due("halve(1, 1)", true)
                .duePairs(0, "1=2").duePairs(1, "1=4");
        Document.says("`key`: the key");
        for (String key : Edges.INTS) {
            Run.with("put(0, " + key + ", 3)").due("halve(0, " + key + ")", true)
                    .duePairs(0, key + "=1").due("halve(0, " + key + ")", false).due("size(0)", 0);
        }
        Document.says("Returns whether the key is there then");
        Run.with("put(0, 1, MIN)").due("halve(0, 1)", true).made("put(0, 1, -2)")
                .due("halve(0, 1)", true).due("halve(0, 1)", false);
        Document.says("false also if it was not there");
        new Run().due("halve(0, 0)", false).filled(0, 200).due("halve(0, 200)", false)
                .due("halve(0, -1)", false).due("size(0)", 200);
    }

    private static void addToAll() {
        Document.section("Promise 7");
        Document.says("Adds a number to all values of a book");
        new Run().filled(0, 200).due("addToAll(0, 7)", 200).dueEnds(0, 200, "0=7", "199=7")
                .due("addToAll(0, 0)", 200).dueEnds(0, 200, "0=7", "199=7").due("mean(0)", 7.0);
        Document.says("`book`: a book");
        for (int book = 0; book < 3; book++) {
            Run x = Run.with("put(0, 1, 1)", "put(1, 1, 1)", "put(2, 1, 1)", "offer(1)");
            x.due("addToAll(" + book + ", 4)", 1);
            for (int other = 0; other < 4; other++) {
                x.duePairs(other, other == book ? "1=5" : "1=1");
            }
        }
        Document.says("`number`: the number");
        Run.with("put(0, 1, MAX)", "put(0, 2, MIN)", "put(0, 3, -1)").due("addToAll(0, MIN)", 3)
                .duePairs(0, "1=-1 2=0 3=MAX").due("addToAll(0, MAX)", 3)
                .duePairs(0, "1=2147483646 2=MAX 3=-2");
        Document.says("Returns how many pairs the book has");
        new Run().due("addToAll(0, 1)", 0).due("addToAll(2, MAX)", 0).made("put(2, 1, 1)")
                .due("addToAll(2, 1)", 1).made("rebind(40)", "fill(2, 0, 1, 60)")
                .due("addToAll(2, -1)", 40).dueEnds(2, 40, "20=-1", "59=-1");
    }

    private static void replace() {
        Document.section("Promise 8");
        Document.says("Gives another value to a key that is there");
        new Run().filled(0, 200).due("replace(0, 0, 5)", true).due("replace(0, 199, 6)", true)
                .dueEnds(0, 200, "0=5", "199=6").due("replace(0, 200, 7)", false)
                .due("size(0)", 200);
        Document.says("`book`: a book");
        for (int book = 0; book < 3; book++) {
            Run.with("put(" + book + ", 1, 1)").due("replace(" + book + ", 1, 2)", true)
                    .duePairs(book, "1=2").due("replace(" + (book + 1) % 3 + ", 1, 2)", false);
        }
        Document.says("`key`: the key");
        for (String key : Edges.INTS) {
            Run.with("put(2, " + key + ", 1)").due("replace(2, " + key + ", 2)", true)
                    .duePairs(2, key + "=2").due("replace(2, 5, 2)", false);
        }
        Document.says("`value`: the value");
        for (String value : Edges.INTS) {
            Run.with("put(0, 1, 7)").due("replace(0, 1, " + value + ")", true)
                    .duePairs(0, "1=" + value);
        }
        Document.says("Returns whether the key is there");
        new Run().due("replace(0, 0, 0)", false).due("size(0)", 0).made("put(0, 0, 0)")
                .due("replace(0, 0, 0)", true).made("remove(0, 0)").due("replace(0, 0, 0)", false)
                .made("rebind(1)", "put(2, 1, 1)", "put(2, 2, 2)").due("replace(2, 1, 5)", false)
                .due("replace(2, 2, 5)", true).duePairs(2, "2=5");
    }

    private static void remove() {
        Document.section("Promise 9");
        Document.says("Removes a pair from a book");
        new Run().filled(1, 200).due("remove(1, 199)", 0).due("remove(1, 0)", 0)
                .dueEnds(1, 198, "1=0", "198=0").due("remove(1, 100)", 0)
                .due("placeOf(1, 101)", 99).due("hasKey(1, 100)", false);
        Run.with("put(0, 5, 5)").due("remove(0, 5)", 5).due("size(0)", 0);
        Document.says("`book`: a book");
        eachBookOfOnePair("remove(#, 1)", 1);
        Document.says("`key`: its key");
        for (String key : Edges.INTS) {
            Run.with(Calls.each(Edges.INTS, "put(0, #, 6)")).due("remove(0, " + key + ")", 6)
                    .due("hasKey(0, " + key + ")", false).due("size(0)", 4);
        }
        Document.says("Returns its value");
        for (String value : Edges.INTS) {
            Run.with("put(2, 8, 3)", "put(2, 8, " + value + ")", "put(1, 0, " + value + ")")
                    .due("get(1, 0, 5)", Calls.numberOf(value))
                    .due("remove(2, 8)", Calls.numberOf(value));
        }
    }

    /** The pair of just this book goes. */
    private static void eachBookOfOnePair(String call, Object answer) {
        for (int book = 0; book < 3; book++) {
            Run x = Run.with("put(0, 1, 1)", "put(1, 1, 1)", "put(2, 1, 1)", "offer(1)");
            x.due(call.replace("#", "" + book), answer);
            for (int other = 0; other < 4; other++) {
                x.due("size(" + other + ")", other == book ? 0 : 1);
            }
        }
    }

    private static void removePair() {
        Document.section("Promise 10");
        Document.says("Removes a pair from a book, if the key is there with this value");
        new Run().filled(0, 200).due("removePair(0, 0, 1)", false)
                .due("removePair(0, 200, 0)", false).due("size(0)", 200)
                .due("removePair(0, 0, 0)", true).due("removePair(0, 199, 0)", true)
                .dueEnds(0, 198, "1=0", "198=0");
        Document.says("`book`: a book");
        eachBookOfOnePair("removePair(#, 1, 1)", true);
        Document.says("`key`: the key");
        for (String key : Edges.INTS) {
            Run.with(Calls.each(Edges.INTS, "put(2, #, 6)"))
                    .due("removePair(2, " + key + ", 6)", true)
                    .due("hasKey(2, " + key + ")", false).due("size(2)", 4);
        }
        Document.says("`value`: the value");
        for (String value : Edges.INTS) {
            Run x = Run.with("put(0, 1, " + value + ")");
            for (String other : Edges.INTS) {
                if (!other.equals(value)) {
                    x.due("removePair(0, 1, " + other + ")", false);
                }
            }
            x.duePairs(0, "1=" + value).due("removePair(0, 1, " + value + ")", true);
        }
        Document.says("Returns whether it was removed");
        new Run().due("removePair(0, 0, 0)", false).made("put(0, 0, 0)")
                .due("removePair(0, 0, 0)", true).due("removePair(0, 0, 0)", false)
                .made("put(0, 3, 4)", "put(0, 4, 3)").due("removePair(0, 3, 3)", false)
                .duePairs(0, "3=4 4=3");
    }

    private static void fill() {
        Document.section("Promise 11");
        Document.says("Puts pairs into a book, one after the other: the keys from, from + step");
        Run.with("put(0, 6, 9)", "put(0, 8, 9)").due("fill(0, 2, 2, 3)", 4)
                .duePairs(0, "6=0 8=9 2=0 4=0");
        Run.with("rebind(2)", "put(2, 1, 1)", "put(2, 3, 3)").due("fill(2, 2, 1, 2)", 2)
                .duePairs(2, "3=0 2=0").due("fill(2, 1, 1, 3)", 2).duePairs(2, "1=0 3=0");
        Document.says("`book`: a book");
        for (int book = 0; book < 3; book++) {
            new Run().due("fill(" + book + ", 5, 1, 3)", 3).duePairs(book, "5=0 6=0 7=0");
        }
        Document.says("`from`: the first key");
        for (String from : Edges.INTS) {
            new Run().due("fill(1, " + from + ", 0, 1)", 1).duePairs(1, from + "=0");
        }
        Document.says("`many`: 0 to 60, how many are put");
        new Run().due("fill(0, 1, 1, 0)", 0).due("fill(0, 1, 1, 1)", 1).duePairs(0, "1=0")
                .due("fill(0, 1, 1, 59)", 59).due("fill(0, 1, 1, 60)", 60)
                .dueEnds(0, 60, "1=0", "60=0");
        new Run().due("fill(2, 1, 1, 0)", 0).made("rebind(40)").due("fill(2, 1, 1, 60)", 40)
                .dueEnds(2, 40, "21=0", "60=0");
        Document.says("Returns how many pairs the book has then");
        Run.with("put(0, 3, 5)").due("fill(0, 0, 0, 0)", 1).due("fill(0, 3, 0, 60)", 1)
                .duePairs(0, "3=0").filled(1, 140).due("fill(1, 0, 1, 60)", 140)
                .due("fill(1, 81, 1, 60)", 141);
        new Run().filled(0, 140).due("fill(0, 0, 1, 0)", 140).due("fill(0, 140, 1, 60)", 200)
                .dueEnds(0, 200, "0=0", "199=0");
    }

    private static void fillGoesRound() {
        Document.says("each with the value 0 (ints that go round)");
        new Run().made("fill(0, MAX, 1, 2)", "fill(1, MIN, -1, 2)").duePairs(0, "MAX=0 MIN=0")
                .duePairs(1, "MIN=0 MAX=0");
        Document.says("from + 2 * step, and so on");
        Run far = Run.with("fill(0, 5, 1000000000, 60)");
        for (int i = 0; i < 60; i++) {
            far.due("keyAt(0, " + i + ")", 5 + i * 1000000000).due("valueAt(0, " + i + ")", 0);
        }
        Document.says("`step`: what is added");
        Run.with("fill(0, 7, 0, 60)", "fill(1, 7, MIN, 60)").duePairs(0, "7=0")
                .duePairs(1, "7=0 -2147483641=0").made("clear(0)", "fill(0, -1, MAX, 3)")
                .duePairs(0, "-1=0 2147483646=0 -3=0").made("fill(2, 1, -1, 3)")
                .duePairs(2, "1=0 0=0 -1=0");
    }

    private static void pour() {
        Document.section("Promise 12");
        Document.says("Puts all pairs of a book into another one, in their order");
        new Run().filled(0, 200).made("put(0, 199, MAX)", "put(0, 0, MIN)").due("pour(0, 1)", 200)
                .dueEnds(1, 200, "0=MIN", "199=MAX").due("areAlike(0, 1)", true);
        Run.with("put(1, 5, 1)", "put(1, 6, 2)", "put(0, 6, 3)", "put(0, 4, 4)")
                .due("pour(0, 1)", 3).duePairs(1, "5=1 6=3 4=4");
        Document.says("the first one stays as it is");
        Run.with("put(0, MIN, MAX)", "put(0, MAX, MIN)", "open(0, 0, PAIRS)", "open(1, 1, KEYS)")
                .due("pour(0, 1)", 2).duePairs(0, "MIN=MAX MAX=MIN").dueBooks(0, NONE, NONE)
                .dueRest(0, MIN, MAX);
        Document.says("`book`: a book");
        for (int book = 0; book < 4; book++) {
            Run x = Run.with("put(0, 0, 1)", "put(1, 1, 1)", "put(2, 2, 1)", "offer(3)");
            int other = book == 1 ? 0 : 1;
            x.due("pour(" + book + ", " + other + ")", 2).duePairs(book, book + "=1");
            x.duePairs(other, other + "=1 " + book + "=1");
        }
        Document.says("`other`: a book");
        for (int other = 0; other < 3; other++) {
            Run.with("offer(8)", "offer(8)").due("pour(3, " + other + ")", 1)
                    .duePairs(other, "8=2").due("size(" + (other + 1) % 3 + ")", 0);
        }
        Document.says("Returns how many pairs the other one has then");
        new Run().due("pour(0, 1)", 0).made("put(1, 1, 1)").due("pour(0, 1)", 1)
                .due("pour(1, 0)", 1).due("pour(1, 0)", 1).due("pour(2, 0)", 1)
                .due("pour(3, 2)", 0);
        new Run().filled(0, 200).filled(1, 199).due("pour(1, 0)", 200).due("pour(0, 1)", 200);
        new Run().filled(0, 160).made("rebind(40)", "fill(2, 160, 1, 40)").due("pour(2, 0)", 200)
                .dueEnds(0, 200, "0=0", "199=0").due("pour(2, 0)", 200).due("pour(0, 2)", 40);
    }

    private static void pourIntoTheBoundedBook() {
        Document.says("Puts all pairs of a book into another one, in their order");
        for (int bound : Edges.BOUNDS) {
            Run x = new Run().filled(0, 200).made("put(0, 199, 5)", "rebind(" + bound + ")");
            x.made("put(2, -1, -1)").due("pour(0, 2)", bound);
            x.dueEnds(2, bound, 200 - bound + (bound == 1 ? "=5" : "=0"), "199=5");
            x.due("pour(0, 2)", bound).due("valueAt(2, " + (bound - 1) + ")", 5);
            x.due("size(0)", 200).due("errors()", 0);
        }
        // A key that is there is let go ahead of its turn, and comes anew.
        Run.with("rebind(2)", "put(2, 1, 1)", "put(2, 2, 2)", "put(0, 3, 3)", "put(0, 1, 9)")
                .due("pour(0, 2)", 2).duePairs(2, "3=3 1=9");
        // A key that is there has its turn first, keeps its place, and is let go behind it.
        Run.with("rebind(2)", "put(2, 1, 1)", "put(2, 2, 2)", "put(0, 1, 9)", "put(0, 3, 3)")
                .due("pour(0, 2)", 2).duePairs(2, "2=2 3=3");
    }

    private static void copy() {
        Document.section("Promise 13");
        Document.says("Makes a plain book a copy of a book");
        new Run().filled(0, 200).made("put(0, 0, MIN)", "put(0, 199, MAX)", "put(1, 500, 5)")
                .due("copy(0, 1)", 200).dueEnds(1, 200, "0=MIN", "199=MAX")
                .due("areAlike(0, 1)", true).made("remove(1, 0)").due("hasKey(0, 0)", true)
                .made("put(1, 0, 7)", "put(0, 199, 8)").dueEnds(1, 200, "1=0", "0=7");
        Document.says("`book`: a book");
        for (int book = 0; book < 4; book++) {
            Run x = Run.with("put(0, 0, 1)", "put(1, 1, 1)", "put(2, 2, 1)", "offer(3)");
            int other = book == 1 ? 0 : 1;
            x.due("copy(" + book + ", " + other + ")", 1).duePairs(other, book + "=1");
            x.duePairs(book, book + "=1");
        }
        Document.says("`other`: a plain book, another one");
        Run.with("put(0, 1, 1)").due("copy(0, 1)", 1).made("put(1, 2, 2)").due("copy(1, 0)", 2)
                .duePairs(0, "1=1 2=2");
        Document.says("Returns how many pairs it has then");
        new Run().due("copy(0, 1)", 0).filled(1, 200).due("copy(0, 1)", 0).due("size(1)", 0)
                .due("copy(2, 1)", 0).due("copy(3, 1)", 0).made("rebind(40)", "fill(2, 0, 1, 60)")
                .due("copy(2, 1)", 40).dueEnds(1, 40, "20=0", "59=0");
        new Run().offered(200).due("copy(3, 0)", 200).dueEnds(0, 200, "0=1", "199=1");
    }

    private static void clear() {
        Document.section("Promise 14");
        Document.says("Empties a book");
        new Run().filled(0, 200).due("clear(0)", 200).due("size(0)", 0).due("hasKey(0, 0)", false)
                .due("hasValue(0, 0)", false).due("put(0, 199, 1)", false).duePairs(0, "199=1");
        Document.says("`book`: a book");
        eachBookOfOnePair("clear(#)", 1);
        Document.says("Returns how many pairs it had");
        new Run().due("clear(0)", 0).made("put(0, MIN, 0)").due("clear(0)", 1).due("clear(0)", 0)
                .due("clear(2)", 0).made("rebind(40)", "fill(2, 0, 1, 60)").due("clear(2)", 40)
                .due("fill(2, 0, 1, 60)", 40);
    }
}
