import java.util.HashSet;
import java.util.List;
import java.util.Set;

/**
 * The rows "Throws ..", promise by promise: calls that are refused by a row alone, and calls to
 * which a later row of the same promise applies too. A refused call changes nothing (Run.refused).
 * Behind each promise no row, and no two rows of it, may be left that were not tried.
 */
final class Refusals {
    private static final String[] BOTH_PLAIN = {"0", "1"};
    private static final String[] BY_HAND = {"0", "1", "2"};
    private static final String[] NOT_PLAIN = {"2", "3"};
    private static final Set<String> TRIED = new HashSet<>();

    private Refusals() {
    }

    /** A row of the promise at hand; which exception it is for is read from it. */
    private static final class Row {
        final String sentence;
        final String exception;

        Row(String words) {
            sentence = Document.says(words);
            exception = sentence.split("`")[1];
        }

        Row alone(Run x, String... calls) {
            return refuse(x, "", calls);
        }

        /** To these calls the later row applies too. */
        Row aheadOf(Row later, Run x, String... calls) {
            return refuse(x, later.sentence, calls);
        }

        /** No call is refused by both rows; these come nearest to it. */
        Row apartFrom(Row later, Run x, String... calls) {
            return refuse(x, later.sentence, calls);
        }

        private Row refuse(Run x, String later, String... calls) {
            Document.says(sentence);
            TRIED.add(sentence + "/" + later);
            for (String call : calls) {
                x.refused(call, exception);
            }
            return this;
        }
    }

    static void check() {
        rebind();
        put();
        putNewAndAdd(4, "putNew");
        putNewAndAdd(5, "add");
        halve();
        byHand(7, "addToAll(#, 1)", "addToAll(#, 0)");
        byHand(8, "replace(#, 1, 5)", "replace(#, 99, 5)");
        remove();
        byHand(10, "removePair(#, 1, 1)", "removePair(#, 99, 1)");
        fill();
        pour();
        copy();
        byHand(14, "clear(#)");
        queue();
        open();
        hasNext();
        next();
        removeAt();
        setAt();
        setAtOfOtherKinds();
        bookOf();
        questions();
        twoBooks();
        places();
        isAddRefused();
        isNothingRefused();
    }

    /** Books with pairs of different keys and values, and an output. */
    private static Run books() {
        return Run.with("put(0, 1, 10)", "put(0, 2, 20)", "put(0, 3, 30)", "put(1, 4, 40)")
                .made("put(1, 1, 11)", "rebind(3)", "put(2, 1, 12)", "put(2, 6, 60)", "offer(1)")
                .made("offer(7)", "offer(7)", "offer(8)", "write(0)");
    }

    private static void endOf(Row... rows) {
        List<String> all = Document.refusals();
        Expect.due("the rows of the promise", rows.length, all.size());
        for (int first = 0; first < all.size(); first++) {
            String sentence = all.get(first);
            Expect.due("tried alone: " + sentence, TRIED.contains(sentence + "/"), true);
            for (String later : all.subList(first + 1, all.size())) {
                Expect.due("tried: " + sentence + ", and also " + later,
                        TRIED.contains(sentence + "/" + later), true);
            }
        }
        TRIED.clear();
    }

    private static void rebind() {
        Document.section("Promise 2");
        Row range = new Row("if bound is out of range");
        range.alone(books(), "rebind(0)", "rebind(41)", "rebind(-1)", "rebind(MIN)", "rebind(MAX)");
        range.alone(new Run(), "rebind(0)", "rebind(41)");
        range.alone(Run.with("rebind(40)", "fill(2, 0, 1, 40)"), "rebind(0)", "rebind(41)");
        endOf(range);
    }

    private static void put() {
        Document.section("Promise 3");
        Row none = new Row("if there is no such book");
        Row queue = new Row("if it is the book 3");
        Row full = new Row("if the key is not there, and the book is plain and has 200 pairs");
        none.alone(books(), Calls.each(Edges.NO_BOOKS, "put(#, 1, 5)"));
        none.apartFrom(queue, books(), Calls.each(Edges.NO_BOOKS, "put(#, 7, 2)"));
        none.apartFrom(full, fullPlain(), Calls.each(Edges.NO_BOOKS, "put(#, 999, 5)"));
        queue.alone(books(), "put(3, 7, 5)", "put(3, 99, 5)");
        queue.alone(books(), "put(3, MIN, MIN)", "put(3, MAX, MAX)");
        queue.alone(new Run(), "put(3, 0, 0)");
        queue.apartFrom(full, new Run().offered(200), "put(3, 200, 5)", "put(3, 0, 5)");
        full.alone(fullPlain(), "put(0, 200, 5)", "put(1, 200, 5)", "put(0, -1, 5)");
        full.alone(fullPlain(), Calls.each(BOTH_PLAIN, "put(#, MIN, MAX)"));
        full.alone(fullPlain(), Calls.each(BOTH_PLAIN, "put(#, MAX, MIN)"));
        endOf(none, queue, full);
    }

    private static Run fullPlain() {
        return new Run().filled(0, 200).filled(1, 200).made("put(0, 199, 7)", "put(1, 0, 8)")
                .made("put(2, 1, 1)", "put(2, 5, 2)", "offer(1)", "offer(9)", "write(2)");
    }

    private static void putNewAndAdd(int promise, String name) {
        Document.section("Promise " + promise);
        Row none = new Row("if there is no such book");
        Row plain = new Row("if it is not plain");
        Row full = new Row("if the key is not there, and the book has 200 pairs");
        none.alone(books(), Calls.each(Edges.NO_BOOKS, name + "(#, 1, 5)"));
        // A book that does not exist is no plain one.
        none.aheadOf(plain, new Run(), Calls.each(Edges.NO_BOOKS, name + "(#, 1, 5)"));
        none.apartFrom(full, fullPlain(), Calls.each(Edges.NO_BOOKS, name + "(#, 999, 5)"));
        plain.alone(books(), Calls.each(NOT_PLAIN, name + "(#, 1, 5)"));
        plain.alone(books(), Calls.each(NOT_PLAIN, name + "(#, MIN, MAX)"));
        plain.alone(Run.with("rebind(40)", "fill(2, 0, 1, 40)"), name + "(2, 40, 1)");
        plain.aheadOf(full, new Run().offered(200), name + "(3, 200, 1)", name + "(3, MAX, 1)");
        full.alone(fullPlain(), name + "(0, 200, 5)", name + "(1, 200, 5)", name + "(1, -1, 0)");
        full.alone(fullPlain(), Calls.each(BOTH_PLAIN, name + "(#, MIN, MAX)"));
        full.alone(fullPlain(), Calls.each(BOTH_PLAIN, name + "(#, MAX, MIN)"));
        endOf(none, plain, full);
    }

    private static void halve() {
        Document.section("Promise 6");
        Row none = new Row("if there is no such book");
        Row plain = new Row("if it is not plain");
        none.alone(books(), Calls.each(Edges.NO_BOOKS, "halve(#, 1)"));
        none.aheadOf(plain, new Run(), Calls.each(Edges.NO_BOOKS, "halve(#, 0)"));
        plain.alone(books(), "halve(2, 6)", "halve(2, 99)", "halve(3, 7)", "halve(3, 8)");
        plain.alone(new Run(), Calls.each(NOT_PLAIN, "halve(#, MIN)"));
        endOf(none, plain);
    }

    /** Promises that have but the rows of the book: # stands for it. */
    private static void byHand(int promise, String... calls) {
        Document.section("Promise " + promise);
        Row none = new Row("if there is no such book");
        Row queue = new Row("if it is the book 3");
        for (String call : calls) {
            none.alone(books(), Calls.each(Edges.NO_BOOKS, call));
            none.apartFrom(queue, Run.with("offer(1)"), Calls.each(Edges.NO_BOOKS, call));
            queue.alone(books(), call.replace("#", "3"));
            queue.alone(new Run(), call.replace("#", "3"));
            queue.alone(new Run().offered(200), call.replace("#", "3"));
        }
        endOf(none, queue);
    }

    private static void remove() {
        Document.section("Promise 9");
        Row none = new Row("if there is no such book");
        Row queue = new Row("if it is the book 3");
        Row missing = new Row("if the key is not there");
        none.alone(books(), Calls.each(Edges.NO_BOOKS, "remove(#, 1)"));
        none.apartFrom(queue, Run.with("offer(1)"), Calls.each(Edges.NO_BOOKS, "remove(#, 1)"));
        none.aheadOf(missing, books(), Calls.each(Edges.NO_BOOKS, "remove(#, 99)"));
        queue.alone(books(), "remove(3, 1)", "remove(3, 7)", "remove(3, 8)");
        queue.aheadOf(missing, books(), "remove(3, 99)", "remove(3, MIN)");
        queue.aheadOf(missing, new Run(), "remove(3, 0)");
        missing.alone(books(), Calls.each(BY_HAND, "remove(#, 99)"));
        missing.alone(new Run(), Calls.each(BY_HAND, "remove(#, 0)"));
        missing.alone(fullPlain(), "remove(0, 200)", "remove(1, -1)", "remove(0, MIN)");
        missing.alone(Run.with("put(0, 1, 1)", "remove(0, 1)"), "remove(0, 1)", "remove(0, MAX)");
        endOf(none, queue, missing);
    }

    private static void fill() {
        Document.section("Promise 11");
        Row none = new Row("if there is no such book");
        Row wrong = new Row("if it is the book 3, or many is out of range");
        Row full = new Row("if the book is plain and has more than 140 pairs");
        none.alone(books(), Calls.each(Edges.NO_BOOKS, "fill(#, 5, 1, 1)"));
        none.aheadOf(wrong, books(), Calls.each(Edges.NO_BOOKS, "fill(#, 5, 1, 61)"));
        none.aheadOf(wrong, books(), Calls.each(Edges.NO_BOOKS, "fill(#, 5, 1, -1)"));
        none.apartFrom(full, fullPlain(), Calls.each(Edges.NO_BOOKS, "fill(#, 5, 1, 60)"));
        for (String many : new String[] {"-1", "61", "MIN", "MAX"}) {
            wrong.alone(books(), Calls.each(BY_HAND, "fill(#, 5, 1, " + many + ")"));
            wrong.alone(new Run().filled(0, 140), "fill(0, 5, 1, " + many + ")");
            wrong.alone(books(), "fill(3, 5, 1, " + many + ")");
            wrong.aheadOf(full, new Run().filled(1, 141), "fill(1, 5, 1, " + many + ")");
            wrong.aheadOf(full, fullPlain(), "fill(0, 5, 1, " + many + ")");
        }
        wrong.alone(books(), "fill(3, 5, 1, 0)", "fill(3, 5, 1, 1)", "fill(3, 7, 0, 60)");
        wrong.alone(new Run().offered(200), "fill(3, 5, 1, 0)", "fill(3, 500, 1, 60)");
        for (String book : BOTH_PLAIN) {
            Run x = new Run().filled(Integer.parseInt(book), 141);
            full.alone(x, "fill(" + book + ", 0, 1, 0)", "fill(" + book + ", 0, 0, 1)");
            full.alone(x, "fill(" + book + ", 500, 1, 59)", "fill(" + book + ", 0, 1, 60)");
        }
        full.alone(fullPlain(), "fill(0, 5, 1, 0)", "fill(1, 500, 1, 60)");
        endOf(none, wrong, full);
    }

    private static void pour() {
        Document.section("Promise 12");
        Row none = new Row("if there is no such book, of either");
        Row wrong = new Row("if the other one is the book 3, or both are the same");
        Row full = new Row("if the other one is plain and would have more than 200 pairs");
        none.alone(books(), Calls.each(Edges.NO_BOOKS, "pour(#, 0)"));
        none.alone(books(), Calls.each(Edges.NO_BOOKS, "pour(3, #)"));
        none.alone(books(), "pour(-1, 4)", "pour(4, -1)", "pour(MIN, MAX)");
        none.aheadOf(wrong, books(), Calls.each(Edges.NO_BOOKS, "pour(#, 3)"));
        none.aheadOf(wrong, books(), Calls.each(Edges.NO_BOOKS, "pour(#, #)"));
        none.apartFrom(full, fullPlain(), Calls.each(Edges.NO_BOOKS, "pour(#, 0)"));
        none.apartFrom(full, fullPlain(), Calls.each(Edges.NO_BOOKS, "pour(0, #)"));
        wrong.alone(books(), "pour(0, 3)", "pour(1, 3)", "pour(2, 3)", "pour(3, 3)");
        wrong.alone(books(), "pour(0, 0)", "pour(1, 1)", "pour(2, 2)");
        wrong.alone(new Run(), "pour(0, 3)", "pour(1, 1)", "pour(2, 2)", "pour(3, 3)");
        wrong.apartFrom(full, new Run().offered(200).made("put(0, 200, 1)"), "pour(0, 3)");
        wrong.apartFrom(full, fullPlain(), "pour(0, 0)", "pour(1, 1)", "pour(0, 3)");
        pourIntoFullBooks(full);
        endOf(none, wrong, full);
    }

    private static void pourIntoFullBooks(Row full) {
        full.alone(new Run().filled(0, 200).made("put(1, 200, 1)", "write(1)"), "pour(1, 0)");
        full.alone(new Run().filled(1, 199).made("put(0, MIN, 1)", "put(0, MAX, 1)"), "pour(0, 1)");
        full.alone(new Run().filled(0, 199).made("put(2, 0, 5)", "put(2, 500, 5)")
                .made("put(2, 501, 5)"), "pour(2, 0)");
        full.alone(new Run().filled(1, 200).made("offer(0)", "offer(200)"), "pour(3, 1)");
        full.alone(new Run().filled(0, 161).made("rebind(40)", "fill(2, 161, 1, 40)"),
                "pour(2, 0)");
        full.alone(new Run().offered(200).made("put(0, -1, 5)"), "pour(3, 0)");
        full.alone(new Run().filled(0, 200).made("fill(1, 500, 1, 60)", "fill(1, 560, 1, 60)")
                .made("fill(1, 620, 1, 20)", "fill(1, 640, 1, 60)"), "pour(0, 1)", "pour(1, 0)");
    }

    private static void copy() {
        Document.section("Promise 13");
        Row none = new Row("if there is no such book, of either");
        Row wrong = new Row("if the other one is not plain, or both are the same");
        none.alone(books(), Calls.each(Edges.NO_BOOKS, "copy(#, 0)"));
        none.alone(books(), Calls.each(Edges.NO_BOOKS, "copy(3, #)"));
        none.aheadOf(wrong, books(), Calls.each(Edges.NO_BOOKS, "copy(#, 2)"));
        none.aheadOf(wrong, books(), Calls.each(Edges.NO_BOOKS, "copy(#, 3)"));
        none.aheadOf(wrong, books(), Calls.each(Edges.NO_BOOKS, "copy(#, #)"));
        wrong.alone(books(), "copy(0, 2)", "copy(1, 2)", "copy(3, 2)", "copy(2, 2)");
        wrong.alone(books(), "copy(0, 3)", "copy(1, 3)", "copy(2, 3)", "copy(3, 3)");
        wrong.alone(books(), "copy(0, 0)", "copy(1, 1)");
        wrong.alone(fullPlain(), "copy(0, 0)", "copy(1, 1)", "copy(0, 2)", "copy(1, 3)");
        wrong.alone(new Run(), "copy(0, 0)", "copy(1, 1)", "copy(0, 2)", "copy(1, 3)");
        endOf(none, wrong);
    }

    private static void queue() {
        Document.section("Promise 15");
        Row full = new Row("if it is not in it, and 200 are");
        full.alone(new Run().offered(200).made("offer(7)", "put(0, 200, 1)", "write(0)"),
                "offer(200)", "offer(-1)", "offer(MIN)", "offer(MAX)");
        endOf(full);
        Document.section("Promise 16");
        Row empty = new Row("if the queue is empty");
        empty.alone(new Run(), "poll()");
        empty.alone(books().made("poll()", "poll()", "poll()"), "poll()");
        endOf(empty);
        Document.section("Promise 17");
        Row missing = new Row("if it is not in the queue");
        missing.alone(new Run(), "toEnd(0)", "toEnd(MIN)", "toEnd(MAX)");
        missing.alone(books(), "toEnd(2)", "toEnd(99)", "toEnd(-1)", "toEnd(MIN)");
        missing.alone(books().made("poll()"), "toEnd(1)");
        missing.alone(new Run().offered(200), "toEnd(200)", "toEnd(-1)");
        endOf(missing);
    }

    /** The cursor 0 on the last pair of the book 0, and 1 ahead of the first one of the book 1. */
    private static Run cursors() {
        return books().made("open(0, 0, PAIRS)", "next(0)", "next(0)", "next(0)")
                .made("open(1, 1, VALUES)");
    }

    private static void open() {
        Document.section("Promise 18");
        Row none = new Row("if there is no such cursor or book");
        Row kind = new Row("if kind is out of range");
        none.alone(cursors(), Calls.each(Edges.NO_CURSORS, "open(#, 0, KEYS)"));
        for (String cursor : BY_HAND) {
            none.alone(cursors(), Calls.each(Edges.NO_BOOKS, "open(" + cursor + ", #, KEYS)"));
            kind.alone(cursors(), Calls.each(Edges.NO_KINDS, "open(" + cursor + ", 0, #)"));
            kind.alone(cursors(), Calls.each(Edges.NO_KINDS, "open(" + cursor + ", 3, #)"));
        }
        none.alone(cursors(), "open(3, 4, PAIRS)", "open(-1, -1, KEYS)", "open(MIN, MAX, VALUES)");
        none.aheadOf(kind, cursors(), Calls.each(Edges.NO_KINDS, "open(3, 0, #)"));
        none.aheadOf(kind, cursors(), Calls.each(Edges.NO_KINDS, "open(-1, 0, #)"));
        none.aheadOf(kind, cursors(), Calls.each(Edges.NO_KINDS, "open(0, 4, #)"));
        none.aheadOf(kind, cursors(), Calls.each(Edges.NO_KINDS, "open(1, -1, #)"));
        kind.alone(new Run(), "open(0, 0, -1)", "open(1, 1, 3)");
        kind.alone(new Run(), "open(2, 2, MIN)", "open(2, 3, MAX)");
        endOf(none, kind);
    }

    private static void hasNext() {
        Document.section("Promise 19");
        Row none = new Row("if there is no such cursor");
        Row closed = new Row("if it is closed");
        none.alone(cursors(), Calls.each(Edges.NO_CURSORS, "hasNext(#)"));
        none.apartFrom(closed, new Run(), Calls.each(Edges.NO_CURSORS, "hasNext(#)"));
        closed.alone(new Run(), "hasNext(0)", "hasNext(1)", "hasNext(2)");
        closed.alone(cursors(), "hasNext(2)");
        closed.alone(cursors().made("clear(0)"), "hasNext(0)");
        closed.alone(cursors().made("putNew(1, 1, 5)"), "hasNext(1)");
        endOf(none, closed);
    }

    private static void next() {
        Document.section("Promise 20");
        Row none = new Row("if there is no such cursor");
        Row closed = new Row("if it is closed");
        Row end = new Row("if it has no next one");
        none.alone(cursors(), Calls.each(Edges.NO_CURSORS, "next(#)"));
        none.apartFrom(closed, new Run(), Calls.each(Edges.NO_CURSORS, "next(#)"));
        none.aheadOf(end, new Run(), Calls.each(Edges.NO_CURSORS, "next(#)"));
        closed.alone(cursors().made("addToAll(1, 0)"), "next(1)");
        closed.alone(books(), "next(0)", "next(1)", "next(2)");
        closed.aheadOf(end, new Run(), "next(0)", "next(1)", "next(2)");
        closed.aheadOf(end, cursors().made("replace(0, 99, 1)"), "next(0)");
        closed.aheadOf(end, cursors().made("clear(1)"), "next(1)");
        end.alone(cursors(), "next(0)", "next(0)");
        for (String book : new String[] {"0", "1", "2", "3"}) {
            end.alone(Run.with("open(2, " + book + ", KEYS)"), "next(2)");
        }
        end.alone(books().made("open(2, 3, VALUES)", "next(2)", "next(2)", "next(2)"), "next(2)");
        end.alone(cursors().made("removeAt(0)"), "next(0)");
        endOf(none, closed, end);
    }

    private static final String NOT_NOW = "if it is closed, is one of the book 3, did not go on"
            + " since it was opened, or has removed that pair";

    private static void removeAt() {
        Document.section("Promise 21");
        Row none = new Row("if there is no such cursor");
        Row notNow = new Row(NOT_NOW);
        none.alone(cursors(), Calls.each(Edges.NO_CURSORS, "removeAt(#)"));
        none.apartFrom(notNow, new Run(), Calls.each(Edges.NO_CURSORS, "removeAt(#)"));
        refusedNow(notNow, "removeAt(#)");
        for (String kind : new String[] {"KEYS", "VALUES"}) {
            Run x = books().made("open(0, 2, " + kind + ")", "open(2, 3, " + kind + ")", "next(2)");
            notNow.alone(x, "removeAt(0)", "removeAt(2)").alone(x.made("next(0)", "removeAt(0)"),
                    "removeAt(0)");
        }
        endOf(none, notNow);
    }

    /** Each of the four reasons of its row, with cursors of pairs. */
    private static void refusedNow(Row notNow, String call) {
        String ofCursor0 = call.replace("#", "0");
        // closed: at first, and by a call behind next()
        notNow.alone(new Run(), Calls.each(BY_HAND, call));
        notNow.alone(cursors().made("addToAll(0, 0)"), ofCursor0);
        notNow.alone(cursors().made("open(2, 0, PAIRS)", "next(2)", "removeAt(2)"), ofCursor0);
        // one of the book 3, ahead of its first number, on it, and behind the last one
        notNow.alone(books().made("open(0, 3, PAIRS)"), ofCursor0);
        notNow.alone(books().made("open(0, 3, PAIRS)", "next(0)"), ofCursor0);
        notNow.alone(books().made("open(0, 3, PAIRS)", "next(0)", "next(0)", "next(0)"), ofCursor0);
        // did not go on since it was opened, also opened anew, and in an empty book
        for (String book : BY_HAND) {
            notNow.alone(books().made("open(0, " + book + ", PAIRS)"), ofCursor0);
            notNow.alone(Run.with("open(0, " + book + ", PAIRS)"), ofCursor0);
        }
        notNow.alone(cursors().made("open(0, 0, PAIRS)", "hasNext(0)"), ofCursor0);
        // has removed that pair: the first, one between, the last, the only one
        for (int went = 1; went <= 3; went++) {
            Run x = books().made("open(0, 0, PAIRS)");
            for (int step = 0; step < went; step++) {
                x.made("next(0)");
            }
            notNow.alone(x.made("removeAt(0)"), ofCursor0);
        }
        notNow.alone(Run.with("put(2, 5, 5)", "open(0, 2, PAIRS)", "next(0)", "removeAt(0)"),
                ofCursor0);
    }

    private static void setAt() {
        Document.section("Promise 22");
        Row none = new Row("if there is no such cursor");
        Row kind = new Row("if it is open, but not one of pairs");
        Row notNow = new Row(NOT_NOW);
        none.alone(cursors(), Calls.each(Edges.NO_CURSORS, "setAt(#, 5)"));
        none.apartFrom(kind, new Run(), Calls.each(Edges.NO_CURSORS, "setAt(#, 5)"));
        none.apartFrom(notNow, cursors(), Calls.each(Edges.NO_CURSORS, "setAt(#, MIN)"));
        refusedNow(notNow, "setAt(#, 5)");
        notNow.alone(cursors().made("open(1, 1, KEYS)", "next(1)", "clear(1)"), "setAt(1, 5)");
        notNow.alone(cursors().made("next(1)", "clear(1)"), "setAt(1, MIN)", "setAt(1, MAX)");
    }

    private static void setAtOfOtherKinds() {
        Row none = new Row("if there is no such cursor");
        Row kind = new Row("if it is open, but not one of pairs");
        Row notNow = new Row(NOT_NOW);
        for (String other : new String[] {"KEYS", "VALUES"}) {
            for (String book : BY_HAND) {
                String open = "open(1, " + book + ", " + other + ")";
                kind.alone(books().made(open, "next(1)"), "setAt(1, 5)", "setAt(1, MIN)");
                kind.aheadOf(notNow, books().made(open), "setAt(1, 5)");
                kind.aheadOf(notNow, Run.with(open), "setAt(1, 5)");
                kind.aheadOf(notNow, books().made(open, "next(1)", "removeAt(1)"), "setAt(1, 5)");
            }
            String open = "open(1, 3, " + other + ")";
            kind.aheadOf(notNow, books().made(open, "next(1)"), "setAt(1, 1)", "setAt(1, 5)");
            kind.aheadOf(notNow, books().made(open), "setAt(1, 5)");
            kind.aheadOf(notNow, Run.with(open), "setAt(1, MAX)");
        }
        endOf(none, kind, notNow);
    }

    private static void bookOf() {
        Document.section("Promise 23");
        Row none = new Row("if there is no such cursor");
        none.alone(cursors(), Calls.each(Edges.NO_CURSORS, "bookOf(#)"));
        none.alone(new Run(), Calls.each(Edges.NO_CURSORS, "bookOf(#)"));
        endOf(none);
    }

    /** Of one book, and nothing else that can be wrong. */
    private static void questions() {
        String[] calls = {"24 size(#)", "25 hasKey(#, 1)", "26 hasValue(#, 10)", "27 get(#, 1, 5)",
            "30 placeOf(#, 1)", "33 hash(#)", "34 sum(#)", "35 write(#)", "39 mean(#)"};
        for (String row : calls) {
            int blank = row.indexOf(' ');
            Document.section("Promise " + row.substring(0, blank));
            Row none = new Row("if there is no such book");
            none.alone(books(), Calls.each(Edges.NO_BOOKS, row.substring(blank + 1)));
            none.alone(new Run(), Calls.each(Edges.NO_BOOKS, row.substring(blank + 1)));
            endOf(none);
        }
    }

    private static void twoBooks() {
        for (String row : new String[] {"31 areEqual", "32 areAlike"}) {
            Document.section("Promise " + row.substring(0, 2));
            Row none = new Row("if there is no such book, of either");
            String call = row.substring(3);
            none.alone(books(), Calls.each(Edges.NO_BOOKS, call + "(#, 0)"));
            none.alone(books(), Calls.each(Edges.NO_BOOKS, call + "(3, #)"));
            none.alone(new Run(), Calls.each(Edges.NO_BOOKS, call + "(#, #)"));
            endOf(none);
        }
    }

    private static void places() {
        for (String row : new String[] {"28 keyAt", "29 valueAt"}) {
            Document.section("Promise " + row.substring(0, 2));
            Row none = new Row("if there is no such book or place");
            String call = row.substring(3);
            none.alone(books(), Calls.each(Edges.NO_BOOKS, call + "(#, 0)"));
            none.alone(books(), call + "(4, 3)", call + "(-1, -1)", call + "(MIN, MAX)");
            for (String place : new String[] {"-1", "3", "200", "MIN", "MAX"}) {
                none.alone(books(), call + "(0, " + place + ")", call + "(3, " + place + ")");
            }
            none.alone(books(), call + "(1, 2)", call + "(2, 2)");
            none.alone(new Run(), Calls.each(BY_HAND, call + "(#, 0)")).alone(new Run(),
                    call + "(3, 0)", call + "(0, -1)");
            none.alone(fullPlain(), call + "(0, 200)", call + "(1, 200)", call + "(1, -1)");
            none.alone(Run.with("put(0, 1, 1)", "clear(0)"), call + "(0, 0)");
            endOf(none);
        }
        Document.section("Promise 36");
        Row none = new Row("if there is none");
        none.alone(new Run(), "outputAt(0)", "outputAt(1)", "outputAt(-1)");
        // {1=10, 2=20, 3=30} has 18 characters.
        none.alone(books(), "outputAt(18)", "outputAt(-1)", "outputAt(MIN)", "outputAt(MAX)");
        none.alone(books().made("write(1)", "clear(0)", "write(0)"), "outputAt(2)");
        endOf(none);
    }

    private static void isAddRefused() {
        Document.section("Promise 37");
        Row none = new Row("if there is no such book");
        Row kind = new Row("if kind is out of range");
        none.alone(books(), Calls.each(Edges.NO_BOOKS, "isAddRefused(#, KEYS)"));
        none.alone(books(), Calls.each(Edges.NO_BOOKS, "isAddRefused(#, PAIRS)"));
        none.aheadOf(kind, books(), Calls.each(Edges.NO_BOOKS, "isAddRefused(#, 3)"));
        none.aheadOf(kind, books(), Calls.each(Edges.NO_BOOKS, "isAddRefused(#, -1)"));
        for (String book : new String[] {"0", "1", "2", "3"}) {
            kind.alone(books(), Calls.each(Edges.NO_KINDS, "isAddRefused(" + book + ", #)"));
        }
        endOf(none, kind);
    }

    private static void isNothingRefused() {
        Document.section("Promise 38");
        Row none = new Row("if there is no such book");
        Row plain = new Row("if it is not plain");
        none.alone(books(), Calls.each(Edges.NO_BOOKS, "isNothingRefused(#, 1)"));
        none.aheadOf(plain, new Run(), Calls.each(Edges.NO_BOOKS, "isNothingRefused(#, 0)"));
        plain.alone(books(), "isNothingRefused(2, 1)", "isNothingRefused(2, 99)");
        plain.alone(books(), "isNothingRefused(3, 1)", "isNothingRefused(3, MIN)");
        plain.alone(new Run(), Calls.each(NOT_PLAIN, "isNothingRefused(#, MAX)"));
        endOf(none, plain);
    }
}
