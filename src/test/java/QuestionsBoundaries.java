/** What the promises 24 to 41 say of edges, sentence by sentence; "Throws ..": see Refusals. */
final class QuestionsBoundaries {
    private static final String NO_PLACE = "IndexOutOfBoundsException";
    private static final String WRONG = "IllegalArgumentException";
    private static final String NO_SIGN = "NoSuchElementException";
    private static final int NONE = Arrivalbooks.NONE;
    private static final int MIN = Integer.MIN_VALUE;
    private static final int MAX = Integer.MAX_VALUE;

    private QuestionsBoundaries() {
    }

    static void check() {
        size();
        hasKey();
        hasValue();
        get();
        keyAt();
        valueAt();
        placeOf();
        areEqual();
        areAlike();
        hash();
        sum();
        write();
        writeNumbers();
        outputAt();
        isAddRefused();
        isNothingRefused();
        mean();
        fullness();
        errors();
    }

    /** A pair in each book: the key is 10 more than the book, the value 1. */
    private static Run onePairEach() {
        return Run.with("put(0, 10, 1)", "put(1, 11, 1)", "put(2, 12, 1)", "offer(13)");
    }

    /** All books as full as can be, but the queue. */
    private static Run fullBooks() {
        return new Run().filled(0, 200).filled(1, 200).made("rebind(40)", "fill(2, 0, 1, 40)");
    }

    private static void size() {
        Document.section("Promise 24");
        Document.says("Returns the number of pairs of a book");
        fullBooks().due("size(0)", 200).due("size(1)", 200).due("size(2)", 40).due("size(3)", 0);
        new Run().offered(200).due("size(3)", 200).due("size(0)", 0);
        Document.says("`book`: a book");
        Run x = new Run();
        for (int book = 0; book < 4; book++) {
            x.due("size(" + book + ")", 0);
        }
        Document.says("Returns the number.");
        onePairEach().changesNothing("size(3)", 1).made("poll()").changesNothing("size(3)", 0)
                .made("put(0, 20, 0)").changesNothing("size(0)", 2);
    }

    private static void hasKey() {
        Document.section("Promise 25");
        Document.says("Tells whether a key is there");
        fullBooks().due("hasKey(0, 0)", true).due("hasKey(0, 199)", true)
                .due("hasKey(0, 200)", false).due("hasKey(0, -1)", false)
                .due("hasKey(2, 39)", true).due("hasKey(2, 40)", false);
        Document.says("`book`: a book");
        for (int book = 0; book < 4; book++) {
            onePairEach().due("hasKey(" + book + ", " + (10 + book) + ")", true)
                    .due("hasKey(" + (book + 1) % 4 + ", " + (10 + book) + ")", false);
        }
        Document.says("`key`: the key");
        for (String key : Edges.INTS) {
            new Run().due("hasKey(0, " + key + ")", false).made("put(0, " + key + ", 7)")
                    .due("hasKey(0, " + key + ")", true).due("hasKey(0, 7)", false);
        }
        Document.says("Returns whether it is");
        new Run().due("hasKey(1, 0)", false).made("put(1, 0, 0)")
                .changesNothing("hasKey(1, 0)", true).made("remove(1, 0)")
                .changesNothing("hasKey(1, 0)", false);
    }

    private static void hasValue() {
        Document.section("Promise 26");
        Document.says("Tells whether some key has a value");
        new Run().filled(0, 200).due("hasValue(0, 0)", true).due("hasValue(0, 5)", false)
                .made("put(0, 199, 5)").due("hasValue(0, 5)", true).made("put(0, 0, 6)")
                .due("hasValue(0, 6)", true).made("remove(0, 199)").due("hasValue(0, 5)", false);
        Document.says("`book`: a book");
        for (int book = 0; book < 4; book++) {
            onePairEach().due("hasValue(" + book + ", 1)", true)
                    .due("hasValue(" + book + ", " + (10 + book) + ")", false);
        }
        Document.says("`value`: the value");
        for (String value : Edges.INTS) {
            new Run().due("hasValue(2, " + value + ")", false).made("put(2, 7, " + value + ")")
                    .due("hasValue(2, " + value + ")", true).due("hasValue(2, 7)", false);
        }
        Document.says("Returns whether it has");
        new Run().changesNothing("hasValue(3, 0)", false).made("offer(0)")
                .changesNothing("hasValue(3, 1)", true).changesNothing("hasValue(3, 0)", false);
    }

    private static void get() {
        Document.section("Promise 27");
        Document.says("Returns the value of a key");
        new Run().filled(0, 200).made("put(0, 0, 5)", "put(0, 199, 6)").due("get(0, 0, 9)", 5)
                .due("get(0, 199, 9)", 6).due("get(0, 200, 9)", 9).due("get(0, -1, 9)", 9);
        Document.says("`book`: a book");
        for (int book = 0; book < 4; book++) {
            onePairEach().due("get(" + book + ", " + (10 + book) + ", 7)", 1)
                    .due("get(" + (book + 1) % 4 + ", " + (10 + book) + ", 7)", 7);
        }
        Document.says("`key`: the key");
        for (String key : Edges.INTS) {
            Run.with("put(0, " + key + ", 7)").due("get(0, " + key + ", 8)", 7)
                    .due("get(1, " + key + ", 8)", 8);
        }
        Document.says("`or`: what is returned if it is not there");
        for (String or : Edges.INTS) {
            new Run().due("get(0, 1, " + or + ")", Calls.numberOf(or)).made("put(0, 1, 5)")
                    .due("get(0, 1, " + or + ")", 5).due("size(0)", 1);
        }
        Document.says("Returns the value.");
        for (String value : Edges.INTS) {
            Run.with("put(2, 1, " + value + ")")
                    .changesNothing("get(2, 1, 5)", Calls.numberOf(value))
                    .changesNothing("get(2, 2, 5)", 5);
        }
    }

    private static void keyAt() {
        Document.section("Promise 28");
        Document.says("Returns the key at a place");
        fullBooks().due("keyAt(0, 199)", 199).due("keyAt(1, 0)", 0).due("keyAt(2, 39)", 39)
                .refused("keyAt(2, 40)", NO_PLACE)
                .refused("keyAt(0, 200)", NO_PLACE);
        Document.says("`book`: a book");
        for (int book = 0; book < 4; book++) {
            onePairEach().due("keyAt(" + book + ", 0)", 10 + book);
        }
        Document.says("`place`: 0 for the first one");
        Run.with("put(0, 8, 1)", "put(0, 7, 2)").due("keyAt(0, 0)", 8).due("keyAt(0, 1)", 7)
                .made("remove(0, 8)").due("keyAt(0, 0)", 7)
                .refused("keyAt(0, 1)", NO_PLACE);
        Document.says("Returns the key.");
        for (String key : Edges.INTS) {
            Run.with("put(2, " + key + ", 9)").changesNothing("keyAt(2, 0)", Calls.numberOf(key));
        }
    }

    private static void valueAt() {
        Document.section("Promise 29");
        Document.says("Returns the value at a place");
        new Run().offered(200).made("offer(0)", "offer(199)").due("valueAt(3, 0)", 2)
                .due("valueAt(3, 1)", 1).due("valueAt(3, 199)", 2)
                .refused("valueAt(3, 200)", NO_PLACE);
        Document.says("`book`: a book");
        for (int book = 0; book < 4; book++) {
            onePairEach().due("valueAt(" + book + ", 0)", 1);
        }
        Document.says("`place`: 0 for the first one");
        Run.with("put(0, 8, 1)", "put(0, 7, 2)").due("valueAt(0, 0)", 1).due("valueAt(0, 1)", 2)
                .made("remove(0, 8)").due("valueAt(0, 0)", 2)
                .refused("valueAt(0, 1)", NO_PLACE);
        Document.says("Returns the value.");
        for (String value : Edges.INTS) {
            Run.with("put(2, 9, " + value + ")")
                    .changesNothing("valueAt(2, 0)", Calls.numberOf(value));
        }
    }

    private static void placeOf() {
        Document.section("Promise 30");
        Document.says("Returns the place of a key");
        fullBooks().due("placeOf(0, 0)", 0).due("placeOf(0, 199)", 199).due("placeOf(2, 39)", 39)
                .made("remove(0, 0)").due("placeOf(0, 199)", 198);
        Document.says("`book`: a book");
        for (int book = 0; book < 4; book++) {
            onePairEach().due("placeOf(" + book + ", " + (10 + book) + ")", 0)
                    .due("placeOf(" + (book + 1) % 4 + ", " + (10 + book) + ")", NONE);
        }
        Document.says("`key`: the key");
        Run keys = Run.with(Calls.each(Edges.INTS, "put(0, #, 7)"));
        for (int place = 0; place < Edges.INTS.length; place++) {
            keys.due("placeOf(0, " + Edges.INTS[place] + ")", place);
        }
        Document.says("Returns its place; NONE if it is not there");
        new Run().changesNothing("placeOf(0, 0)", NONE).made("put(0, 0, 0)")
                .changesNothing("placeOf(0, 0)", 0).changesNothing("placeOf(0, NONE)", NONE)
                .made("remove(0, 0)").due("placeOf(0, 0)", NONE).filled(1, 200)
                .due("placeOf(1, 200)", NONE);
    }

    private static void areEqual() {
        Document.section("Promise 31");
        Document.says("they have the same keys, each with the same value in both, in any order");
        Run x = new Run().filled(0, 200).made("fill(1, 199, -1, 60)", "fill(1, 139, -1, 60)");
        x.made("fill(1, 79, -1, 20)", "fill(1, 59, -1, 60)").due("areEqual(0, 1)", true);
        x.made("put(1, 0, 1)").due("areEqual(0, 1)", false).due("areEqual(1, 0)", false);
        x.made("put(0, 0, 1)").due("areEqual(0, 1)", true).made("remove(0, 0)", "put(0, 200, 1)");
        x.due("areEqual(0, 1)", false).due("areEqual(1, 0)", false);
        Run.with("put(0, MIN, MAX)", "put(0, MAX, MIN)", "put(1, MAX, MIN)", "put(1, MIN, MAX)")
                .due("areEqual(0, 1)", true).made("put(1, MAX, MAX)", "put(1, MIN, MIN)")
                .due("areEqual(0, 1)", false).due("hash(0)", -2);
        Document.says("`book`: a book");
        eachBook("areEqual(#, 1)");
        Document.says("`other`: a book");
        eachBook("areEqual(1, #)");
        Document.says("Returns whether they are");
        new Run().changesNothing("areEqual(0, 1)", true).made("put(0, 0, 0)")
                .changesNothing("areEqual(0, 1)", false).changesNothing("areEqual(1, 0)", false)
                .changesNothing("areEqual(0, 0)", true).made("clear(0)")
                .due("areEqual(0, 1)", true);
    }

    /** Beside the book 1: empty ones are equal and alike, and none that has another pair. */
    private static void eachBook(String call) {
        for (int book = 0; book < 4; book++) {
            String asked = call.replace("#", "" + book);
            new Run().due(asked, true);
            onePairEach().due(asked, book == 1);
            if (book != 1) {
                Run same = onePairEach();
                same.made("copy(" + book + ", 1)").due(asked, true);
            }
        }
    }

    private static void areAlike() {
        Document.section("Promise 32");
        Document.says("Tells whether two books are equal, and have their pairs in the same order");
        new Run().filled(0, 200).made("copy(0, 1)").due("areAlike(0, 1)", true)
                .made("put(1, 199, 1)").due("areAlike(0, 1)", false).made("put(1, 199, 0)")
                .due("areAlike(0, 1)", true).made("remove(1, 0)", "put(1, 0, 0)")
                .due("areAlike(0, 1)", false).due("areEqual(0, 1)", true);
        Run.with("put(0, 1, 2)", "put(0, 3, 4)", "put(2, 3, 4)", "put(2, 1, 2)")
                .due("areAlike(0, 2)", false).made("remove(0, 1)", "put(0, 1, 2)")
                .due("areAlike(0, 2)", true).made("put(0, 5, 6)").due("areAlike(0, 2)", false)
                .due("areAlike(2, 0)", false);
        Document.says("`book`: a book");
        eachBook("areAlike(#, 1)");
        Document.says("`other`: a book");
        eachBook("areAlike(1, #)");
        Document.says("Returns whether they are");
        new Run().changesNothing("areAlike(0, 3)", true).made("offer(0)")
                .changesNothing("areAlike(0, 3)", false).changesNothing("areAlike(3, 0)", false)
                .made("put(0, 0, 1)").changesNothing("areAlike(0, 3)", true)
                .made("put(0, 0, 0)").changesNothing("areAlike(0, 3)", false);
    }

    private static void hash() {
        Document.section("Promise 33");
        Document.says("Returns the hash of a book");
        new Run().due("hash(0)", 0).made("put(0, 0, 0)").due("hash(0)", 0).made("put(0, 5, 3)")
                .due("hash(0)", 6).made("put(0, -1, 0)").due("hash(0)", 5);
        Document.says("`book`: a book");
        for (int book = 0; book < 4; book++) {
            onePairEach().due("hash(" + book + ")", (10 + book) ^ 1);
        }
        Document.says("Returns the sum of key ^ value over all pairs, an int that goes round");
        Run.with("put(1, MAX, 0)", "put(1, 1, 0)").due("hash(1)", MIN).made("put(1, MIN, 0)")
                .due("hash(1)", 0).made("put(1, 0, -1)").changesNothing("hash(1)", -1);
        int due = 0;
        for (int key = 0; key < 200; key++) {
            due += key ^ MAX;
        }
        new Run().filled(0, 200).due("hash(0)", 19900).made("addToAll(0, MAX)").due("hash(0)", due)
                .made("remove(0, 199)").due("hash(0)", due - (199 ^ MAX));
    }

    private static void sum() {
        Document.section("Promise 34");
        Document.says("Returns a sum by which the order of a book can be compared");
        Run.with("put(0, 1, 2)", "put(0, 3, 4)", "put(1, 3, 4)", "put(1, 1, 2)")
                .due("sum(0)", 37L).due("sum(1)", 29L);
        Document.says("`book`: a book");
        for (int book = 0; book < 4; book++) {
            onePairEach().due("sum(" + book + ")", 13L + book);
        }
        Document.says("over all pairs of (place + 1) * (key + 3 * value), as longs that go round");
        new Run().due("sum(0)", 0L).made("put(0, MAX, MAX)").due("sum(0)", 4L * MAX)
                .made("put(0, MIN, MIN)").changesNothing("sum(0)", 4L * MAX + 2 * 4L * MIN);
        // No long can go round in 200 pairs; these are the sums that are farthest from 0.
        sumsFarFromZero("MIN", 1, MIN);
        sumsFarFromZero("MAX", -1, MAX);
    }

    private static void sumsFarFromZero(String edge, int step, int first) {
        Run x = new Run();
        for (int place = 0; place < 180; place += 60) {
            int from = first + step * place;
            x.made("fill(0, " + from + ", " + step + ", " + (place == 120 ? 20 : 60) + ")");
        }
        x.made("fill(0, " + (first + step * 140) + ", " + step + ", 60)");
        x.made("addToAll(0, " + edge + ")");
        long due = 0L;
        for (int place = 0; place < 200; place++) {
            due += (place + 1L) * (first + step * place + 3L * first);
        }
        x.due("size(0)", 200).due("sum(0)", due).due("mean(0)", (double) first);
    }

    private static void write() {
        Document.section("Promise 35");
        Document.says("Writes a book to the output, in place of what was there");
        Run x = Run.with("put(0, 3, 7)", "put(0, -1, 0)").due("write(0)", 11);
        x.dueOutput("{3=7, -1=0}").due("write(1)", 2).dueOutput("{}");
        Document.says("For example {3=7, -1=0}, or {} for an empty one");
        Run.with("put(0, 3, 7)", "write(0)").dueOutput("{3=7}").made("put(0, -1, 0)", "write(0)")
                .dueOutput("{3=7, -1=0}").made("clear(0)", "write(0)").dueOutput("{}");
        Document.says("`book`: a book");
        for (int book = 0; book < 4; book++) {
            onePairEach().due("write(" + book + ")", 6).dueOutput("{" + (10 + book) + "=1}");
        }
        Document.says("Returns the length of the output");
        Run full = new Run().due("write(3)", 2).filled(0, 200);
        // 10, 90 and 100 keys of 1, 2 and 3 digits, "=0" behind each, and what stands between.
        full.due("write(0)", 10 + 180 + 300 + 400 + 398 + 2);
        Run longest = new Run();
        for (int key = 0; key < 200; key++) {
            longest.made("put(0, " + (-2000000000 - key) + ", MIN)");
        }
        longest.due("write(0)", 5000).due("outputAt(0)", (int) '{').due("outputAt(4999)", (int) '}')
                .due("outputAt(4998)", (int) '8').refused("outputAt(5000)", NO_SIGN);
    }

    private static void writeNumbers() {
        Document.says("a pair as its key, an equals sign and its value");
        int[] numbers = {MIN, MIN + 1, -1000000000, -999999999, -100, -99, -10, -9, -1, 0, 1, 9,
            10, 11, 99, 100, 101, 999999999, 1000000000, MAX - 1, MAX};
        for (int number : numbers) {
            String text = "{" + number + "=" + number + "}";
            Run.with("put(0, " + number + ", " + number + ")").due("write(0)", text.length())
                    .dueOutput(text);
        }
        Run.with("put(2, MIN, MAX)", "put(2, MAX, MIN)", "put(2, 0, 0)", "write(2)")
                .dueOutput("{-2147483648=2147483647, 2147483647=-2147483648, 0=0}");
    }

    private static void outputAt() {
        Document.section("Promise 36");
        Document.says("Returns a character of the output, which is empty at first");
        new Run().refused("outputAt(0)", NO_SIGN).made("put(0, 1, 1)")
                .refused("outputAt(0)", NO_SIGN).made("write(0)").due("outputAt(0)", 123);
        Document.says("`index`: index of a character, from 0");
        Run x = Run.with("write(0)").due("outputAt(0)", 123).due("outputAt(1)", 125);
        for (String index : new String[] {"-1", "2", "MIN", "MAX"}) {
            x.refused("outputAt(" + index + ")", NO_SIGN);
        }
        Document.says("Returns its code");
        Run.with("put(0, -8, 9)", "put(0, 0, 0)", "write(0)").changesNothing("outputAt(0)", 123)
                .due("outputAt(1)", 45).due("outputAt(2)", 56).due("outputAt(3)", 61)
                .due("outputAt(4)", 57).due("outputAt(5)", 44).due("outputAt(6)", 32)
                .due("outputAt(7)", 48).due("outputAt(10)", 125).made("clear(0)", "rebind(1)")
                .due("outputAt(10)", 125).refused("outputAt(11)", NO_SIGN);
    }

    private static void isAddRefused() {
        Document.section("Promise 37");
        Document.says("to add a number to the keys, the values or the pairs of a book as such");
        for (String kind : new String[] {"KEYS", "VALUES", "PAIRS"}) {
            new Run().due("isAddRefused(0, " + kind + ")", true).filled(0, 200)
                    .due("isAddRefused(0, " + kind + ")", true);
        }
        Document.says("`book`: a book");
        for (int book = 0; book < 4; book++) {
            onePairEach().changesNothing("isAddRefused(" + book + ", KEYS)", true);
        }
        Document.says("`kind`: KEYS to PAIRS");
        new Run().due("isAddRefused(1, 0)", true).due("isAddRefused(1, 1)", true)
                .due("isAddRefused(1, 2)", true).refused("isAddRefused(1, -1)", WRONG)
                .refused("isAddRefused(1, 3)", WRONG);
        Document.says("Returns true, always");
        onePairEach().changesNothing("isAddRefused(3, VALUES)", true)
                .changesNothing("isAddRefused(2, PAIRS)", true);
    }

    private static void isNothingRefused() {
        Document.section("Promise 38");
        Document.says("to add nothing (no number) to the value of a key in a plain book");
        new Run().due("isNothingRefused(0, 5)", true).filled(0, 200)
                .due("isNothingRefused(0, 199)", true).due("isNothingRefused(0, 200)", true)
                .due("size(0)", 200);
        Document.says("`book`: a plain book");
        onePairEach().due("isNothingRefused(0, 10)", true).due("isNothingRefused(1, 11)", true);
        Document.says("`key`: the key");
        for (String key : Edges.INTS) {
            new Run().due("isNothingRefused(1, " + key + ")", true).made("put(1, " + key + ", 0)")
                    .due("isNothingRefused(1, " + key + ")", true);
        }
        Document.says("Returns true, always");
        onePairEach().changesNothing("isNothingRefused(0, 10)", true)
                .changesNothing("isNothingRefused(1, 10)", true);
    }

    private static void mean() {
        Document.section("Promise 39");
        Document.says("Returns the mean value of a book");
        Run.with("put(0, 100, 1)", "put(0, 200, 2)").due("mean(0)", 1.5).made("put(0, 300, 2)")
                .due("mean(0)", 5.0 / 3.0).made("put(0, 300, -13)").due("mean(0)", -10.0 / 3.0);
        Document.says("`book`: a book");
        for (int book = 0; book < 4; book++) {
            onePairEach().changesNothing("mean(" + book + ")", 1.0);
        }
        Document.says("(a long) converted to double, divided by the number of pairs");
        new Run().filled(0, 200).made("addToAll(0, MAX)").due("mean(0)", 2147483647.0)
                .made("addToAll(0, 1)").due("mean(0)", -2147483648.0)
                .made("put(0, 0, MAX)").due("mean(0)", (199.0 * MIN + MAX) / 200.0);
        Run.with("put(1, 1, MIN)", "put(1, 2, MAX)").due("mean(1)", -0.5)
                .made("put(1, 3, 1)").due("mean(1)", 0.0);
        Document.says("0.0 for an empty book");
        for (int book = 0; book < 4; book++) {
            new Run().due("mean(" + book + ")", 0.0);
        }
        Run.with("put(0, 1, 5)", "clear(0)").due("mean(0)", 0.0);
    }

    private static void fullness() {
        Document.section("Promise 40");
        Document.says("Returns how full the bounded book is");
        for (int bound : Edges.BOUNDS) {
            Run x = Run.with("rebind(" + bound + ")").due("fullness()", 0.0f);
            x.made("put(2, 1, 1)").due("fullness()", 1.0f / bound);
            x.made("fill(2, 1, 1, " + bound + ")").due("fullness()", 1.0f);
            x.made("put(2, -1, 1)").due("fullness()", 1.0f);
            x.made("clear(2)").due("fullness()", 0.0f);
        }
        Document.says("converted to float, divided by its bound, converted to float");
        for (int bound = 1; bound <= 40; bound++) {
            int less = bound - 1;
            Run.with("rebind(" + bound + ")", "fill(2, 0, 1, " + less + ")")
                    .due("fullness()", (float) less / (float) bound);
        }
        new Run().changesNothing("fullness()", 0.0f).filled(0, 200).due("fullness()", 0.0f);
    }

    private static void errors() {
        Document.section("Promise 41");
        Document.says("Checks the theorem with all books, none of which changes");
        new Run().changesNothing("errors()", 0);
        Run.with("put(0, 1, MIN)", "put(0, 2, MAX)", "put(1, 1, 1)", "put(2, 1, 1)", "offer(5)")
                .made("write(0)", "open(0, 0, PAIRS)", "next(0)").changesNothing("errors()", 0);
        fullBooks().changesNothing("errors()", 0);
        Document.says("Returns for how many books something is not as the theorem tells; always 0");
        new Run().offered(200).filled(0, 200).due("errors()", 0).made("pour(3, 2)", "toEnd(0)")
                .made("copy(3, 1)", "poll()", "remove(0, 0)", "put(0, 0, 0)", "rebind(1)")
                .made("pour(0, 2)", "halve(0, 1)", "open(0, 1, KEYS)", "next(0)", "removeAt(0)")
                .due("errors()", 0).made("clear(0)", "clear(1)", "clear(2)").due("errors()", 0);
    }
}
