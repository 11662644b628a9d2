import java.util.NoSuchElementException;

/** Promises 18 to 23: cursors. */
public final class CursorsTest {
    private static final int KEYS = Arrivalbooks.KEYS;
    private static final int VALUES = Arrivalbooks.VALUES;
    private static final int PAIRS = Arrivalbooks.PAIRS;
    private static final Class<?> NO_PLACE = IndexOutOfBoundsException.class;
    private static final Class<?> WRONG = IllegalArgumentException.class;
    private static final Class<?> NOT_NOW = IllegalStateException.class;
    private static final Class<?> NOT_THERE = NoSuchElementException.class;

    public static void main(String[] args) {
        promise18Open();
        promise19HasNext();
        promise20Next();
        promise21RemoveAt();
        promise21RemoveAtRefused();
        promise22SetAt();
        promise22SetAtRefused();
        promise23BookOf();
        Expect.finish("CursorsTest");
    }

    private static Arrivalbooks withBooks() {
        Arrivalbooks x = new Arrivalbooks();
        Expect.putAll(x, 0, 3, 30, 1, 10, 2, 20);
        Expect.putAll(x, 2, 7, 70);
        x.offer(8);
        x.offer(9);
        x.offer(9);
        return x;
    }

    private static void promise18Open() {
        Arrivalbooks x = withBooks();
        Expect.due("18 open(0, 0, KEYS)", x.open(0, 0, KEYS), 3);
        Expect.due("18 open(1, 1, VALUES)", x.open(1, 1, VALUES), 0);
        Expect.due("18 open(2, 3, PAIRS)", x.open(2, 3, PAIRS), 2);
        Expect.due("18 ahead of the first", x.next(0), 3);
        x.next(0);
        Expect.due("18 open(0, 0, VALUES), one that is open", x.open(0, 0, VALUES), 3);
        Expect.due("18 ahead of the first again", x.next(0), 30);
        Expect.due("18 the others stay open", x.bookOf(1) * 10 + x.bookOf(2), 13);
        Expect.dueThrow(x, "18 open(3, 0, 0)", NO_PLACE, () -> x.open(3, 0, 0));
        Expect.dueThrow(x, "18 open(-1, 0, 0)", NO_PLACE, () -> x.open(-1, 0, 0));
        Expect.dueThrow(x, "18 open(0, 4, 0)", NO_PLACE, () -> x.open(0, 4, 0));
        Expect.dueThrow(x, "18 open(0, -1, 9)", NO_PLACE, () -> x.open(0, -1, 9));
        Expect.dueThrow(x, "18 open(3, 0, 9)", NO_PLACE, () -> x.open(3, 0, 9));
        Expect.dueThrow(x, "18 open(0, 2, 3)", WRONG, () -> x.open(0, 2, 3));
        Expect.dueThrow(x, "18 open(0, 2, -1)", WRONG, () -> x.open(0, 2, -1));
        Expect.due("18 an open() that throws leaves the cursor where it is", x.next(0), 10);
    }

    private static void promise19HasNext() {
        Arrivalbooks x = withBooks();
        Expect.dueThrow(x, "19 hasNext(0), closed", NOT_NOW, () -> x.hasNext(0));
        Expect.dueThrow(x, "19 hasNext(3)", NO_PLACE, () -> x.hasNext(3));
        Expect.dueThrow(x, "19 hasNext(-1)", NO_PLACE, () -> x.hasNext(-1));
        x.open(0, 2, KEYS);
        Expect.due("19 ahead of the only one", x.hasNext(0), true);
        Expect.due("19 asked twice", x.hasNext(0), true);
        x.next(0);
        Expect.due("19 behind it", x.hasNext(0), false);
        x.open(1, 1, KEYS);
        Expect.due("19 in an empty book", x.hasNext(1), false);
    }

    private static void promise20Next() {
        Arrivalbooks x = withBooks();
        Expect.dueThrow(x, "20 next(0), closed", NOT_NOW, () -> x.next(0));
        Expect.dueThrow(x, "20 next(3)", NO_PLACE, () -> x.next(3));
        Expect.dueThrow(x, "20 next(-1)", NO_PLACE, () -> x.next(-1));
        x.open(0, 0, KEYS);
        x.open(1, 0, VALUES);
        x.open(2, 0, PAIRS);
        for (int key : new int[] {3, 1, 2}) {
            Expect.due("20 next of keys", x.next(0), key);
            Expect.due("20 next of values", x.next(1), key * 10);
            Expect.due("20 next of pairs", x.next(2), key);
        }
        for (int cursor = 0; cursor < 3; cursor++) {
            int at = cursor;
            Expect.dueThrow(x, "20 next(" + at + ") behind the last", NOT_THERE, () -> x.next(at));
        }
        Expect.due("20 next() that throws leaves the last pair", x.setAt(2, 21), 20);
        x.open(1, 3, VALUES);
        Expect.due("20 next of the queue", x.next(1) * 10 + x.next(1), 12);
    }

    private static void promise21RemoveAt() {
        Arrivalbooks x = withBooks();
        x.open(0, 0, VALUES);
        x.next(0);
        x.next(0);
        Expect.due("21 removeAt(0)", x.removeAt(0), 2);
        Expect.due("21 the pair it went to last", Expect.pairs(x, 0), "3=30 2=20");
        Expect.due("21 the cursor goes on behind it", x.next(0), 20);
        Expect.due("21 removeAt(0), the last one", x.removeAt(0), 1);
        Expect.due("21 no next one", x.hasNext(0), false);
        x.open(0, 0, KEYS);
        x.next(0);
        Expect.due("21 removeAt(0), the only one", x.removeAt(0), 0);
        x.open(1, 2, PAIRS);
        x.next(1);
        Expect.due("21 of the bounded book", x.removeAt(1), 0);
        Expect.due("21 it is gone", x.hasKey(2, 7), false);
        Expect.due("41 errors()", x.errors(), 0);
    }

    private static void promise21RemoveAtRefused() {
        Arrivalbooks x = withBooks();
        Expect.dueThrow(x, "21 removeAt(3)", NO_PLACE, () -> x.removeAt(3));
        Expect.dueThrow(x, "21 removeAt(-1)", NO_PLACE, () -> x.removeAt(-1));
        Expect.dueThrow(x, "21 removeAt(0), closed", NOT_NOW, () -> x.removeAt(0));
        x.open(0, 0, KEYS);
        Expect.dueThrow(x, "21 removeAt(0), not gone on", NOT_NOW, () -> x.removeAt(0));
        x.next(0);
        x.open(0, 0, KEYS);
        Expect.dueThrow(x, "21 removeAt(0), opened anew", NOT_NOW, () -> x.removeAt(0));
        x.next(0);
        x.next(0);
        x.removeAt(0);
        Expect.dueThrow(x, "21 removeAt(0), removed", NOT_NOW, () -> x.removeAt(0));
        x.open(1, 3, KEYS);
        x.next(1);
        Expect.dueThrow(x, "21 removeAt(1), the queue", NOT_NOW, () -> x.removeAt(1));
        Expect.due("21 the queue's cursor goes on", x.next(1), 9);
    }

    private static void promise22SetAt() {
        Arrivalbooks x = withBooks();
        x.open(0, 0, PAIRS);
        x.next(0);
        x.next(0);
        Expect.due("22 setAt(0, 11)", x.setAt(0, 11), 10);
        Expect.due("22 setAt(0, 12)", x.setAt(0, 12), 11);
        Expect.due("22 the pair it went to last", Expect.pairs(x, 0), "3=30 1=12 2=20");
        Expect.due("22 the cursor goes on", x.next(0), 2);
        x.open(1, 2, PAIRS);
        x.next(1);
        Expect.due("22 of the bounded book", x.setAt(1, 71), 70);
        Expect.due("22 its value", x.get(2, 7, 0), 71);
        x.removeAt(0);
        x.open(0, 0, PAIRS);
        x.next(0);
        x.removeAt(0);
        x.next(0);
        Expect.due("22 setAt behind a removal", x.setAt(0, 13), 12);
        Expect.due("22 the next pair", Expect.pairs(x, 0), "1=13");
    }

    private static void promise22SetAtRefused() {
        Arrivalbooks x = withBooks();
        Expect.dueThrow(x, "22 setAt(3, 1)", NO_PLACE, () -> x.setAt(3, 1));
        Expect.dueThrow(x, "22 setAt(-1, 1)", NO_PLACE, () -> x.setAt(-1, 1));
        Expect.dueThrow(x, "22 setAt(0, 1), closed", NOT_NOW, () -> x.setAt(0, 1));
        x.open(0, 0, KEYS);
        Expect.dueThrow(x, "22 setAt of keys, not gone on", WRONG, () -> x.setAt(0, 1));
        x.next(0);
        Expect.dueThrow(x, "22 setAt of keys", WRONG, () -> x.setAt(0, 1));
        x.open(0, 0, VALUES);
        x.next(0);
        Expect.dueThrow(x, "22 setAt of values", WRONG, () -> x.setAt(0, 1));
        x.clear(0);
        Expect.dueThrow(x, "22 setAt of values, closed by clear", NOT_NOW, () -> x.setAt(0, 1));
        Expect.putAll(x, 0, 1, 10, 2, 20);
        x.open(0, 0, PAIRS);
        Expect.dueThrow(x, "22 setAt of pairs, not gone on", NOT_NOW, () -> x.setAt(0, 1));
        x.next(0);
        x.next(0);
        x.removeAt(0);
        Expect.dueThrow(x, "22 setAt of pairs, removed", NOT_NOW, () -> x.setAt(0, 1));
        x.open(1, 3, VALUES);
        x.next(1);
        Expect.dueThrow(x, "22 setAt of the queue's values", WRONG, () -> x.setAt(1, 1));
        x.open(1, 3, PAIRS);
        x.next(1);
        Expect.dueThrow(x, "22 setAt of the queue's pairs", NOT_NOW, () -> x.setAt(1, 1));
    }

    private static void promise23BookOf() {
        Arrivalbooks x = withBooks();
        Expect.due("23 bookOf(0), closed", x.bookOf(0), Arrivalbooks.NONE);
        for (int book = 0; book < 4; book++) {
            x.open(1, book, KEYS);
            Expect.due("23 bookOf(1)", x.bookOf(1), book);
        }
        x.poll();
        Expect.due("23 bookOf(1), closed again", x.bookOf(1), Arrivalbooks.NONE);
        Expect.dueThrow(x, "23 bookOf(3)", NO_PLACE, () -> x.bookOf(3));
        Expect.dueThrow(x, "23 bookOf(-1)", NO_PLACE, () -> x.bookOf(-1));
    }
}
