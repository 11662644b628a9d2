/** Numbers at the edges, and rows of calls that more than one test goes through. */
final class Edges {
    static final String[] INTS = {"MIN", "-1", "0", "1", "MAX"};
    static final String[] NO_BOOKS = {"-1", "4", "MIN", "MAX"};
    static final String[] NO_CURSORS = {"-1", "3", "MIN", "MAX"};
    static final String[] NO_KINDS = {"-1", "3", "MIN", "MAX"};
    static final int[] BOUNDS = {1, 8, 40};

    /** Into the plain book @ the key #. */
    static final String[] CALLS_BY_WHICH_A_KEY_COMES = {
        "put(@, #, 1)", "putNew(@, #, 1)", "add(@, #, 1)"
    };

    /** All that take a book @ and change it. */
    static final String[] CHANGES_BY_HAND = {
        "put(@, 1, 1)", "putNew(@, 1, 1)", "add(@, 1, 1)", "halve(@, 1)", "addToAll(@, 1)",
        "replace(@, 1, 5)", "remove(@, 1)", "removePair(@, 1, 1)", "fill(@, 0, 1, 0)",
        "pour(0, @)", "copy(0, @)", "clear(@)"
    };

    /** A call that changes something, and the book that it is about. */
    static final String[][] CLOSING_ROWS = {
        {"rebind(9)", "2"}, {"put(0, 9, 9)", "0"}, {"put(2, 9, 9)", "2"}, {"putNew(1, 9, 9)", "1"},
        {"add(0, 1, 1)", "0"}, {"add(1, 9, 1)", "1"}, {"halve(0, 1)", "0"},
        {"addToAll(1, 1)", "1"}, {"addToAll(2, 1)", "2"}, {"replace(0, 1, 5)", "0"},
        {"replace(2, 3, 5)", "2"}, {"remove(1, 2)", "1"}, {"remove(2, 3)", "2"},
        {"removePair(0, 1, 4)", "0"}, {"removePair(2, 3, 4)", "2"}, {"fill(0, 5, 1, 1)", "0"},
        {"fill(2, 5, 1, 60)", "2"}, {"pour(0, 1)", "1"}, {"pour(3, 2)", "2"},
        {"copy(2, 0)", "0"}, {"copy(3, 1)", "1"}, {"clear(0)", "0"}, {"clear(2)", "2"},
        {"offer(9)", "3"}, {"offer(1)", "3"}, {"poll()", "3"}, {"toEnd(1)", "3"}
    };

    /** The same of books that are empty, and a queue of the one number 1. */
    static final String[][] ROWS_THAT_CHANGE_NOTHING = {
        {"rebind(8)", "2"}, {"halve(0, 1)", "0"}, {"addToAll(0, 0)", "0"}, {"addToAll(1, 5)", "1"},
        {"addToAll(2, 5)", "2"}, {"replace(0, 1, 1)", "0"}, {"replace(2, 1, 1)", "2"},
        {"removePair(1, 1, 1)", "1"}, {"removePair(2, 1, 1)", "2"}, {"fill(0, 1, 1, 0)", "0"},
        {"fill(1, 1, 1, 0)", "1"}, {"fill(2, 1, 1, 0)", "2"}, {"pour(0, 1)", "1"},
        {"pour(1, 0)", "0"}, {"pour(0, 2)", "2"}, {"copy(0, 1)", "1"}, {"copy(2, 0)", "0"},
        {"clear(0)", "0"}, {"clear(1)", "1"}, {"clear(2)", "2"}, {"toEnd(1)", "3"}
    };

    /** And of books in which the key 1 has the value 4. */
    static final String[][] ROWS_THAT_CHANGE_NO_PAIR = {
        {"put(0, 1, 4)", "0"}, {"put(2, 1, 4)", "2"}, {"putNew(1, 1, 9)", "1"},
        {"add(0, 1, 0)", "0"}, {"halve(1, 2)", "1"}, {"addToAll(0, 0)", "0"},
        {"replace(0, 1, 4)", "0"}, {"replace(2, 2, 4)", "2"}, {"removePair(0, 1, 9)", "0"},
        {"removePair(1, 2, 4)", "1"}, {"fill(0, 1, 0, 0)", "0"}, {"pour(0, 1)", "1"},
        {"pour(1, 2)", "2"}, {"copy(2, 0)", "0"}
    };

    /** Of the book #, and what it answers. */
    static final String[][] QUESTIONS_OF_AN_EMPTY_BOOK = {
        {"size(#)", "0"}, {"hasKey(#, 0)", "false"}, {"hasValue(#, 0)", "false"},
        {"get(#, 0, MIN)", "-2147483648"}, {"get(#, 0, MAX)", "2147483647"},
        {"placeOf(#, 0)", "-1"}, {"areEqual(#, 0)", "true"}, {"areAlike(3, #)", "true"},
        {"hash(#)", "0"}, {"sum(#)", "0"}, {"mean(#)", "0.0"}, {"write(#)", "2"},
        {"open(0, #, KEYS)", "0"}, {"hasNext(0)", "false"}
    };

    private Edges() {
    }
}
