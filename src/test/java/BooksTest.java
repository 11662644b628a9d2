/** Promises 1 to 14: a new object, and the calls that change books. */
public final class BooksTest {
    private static final Class<?> NO_PLACE = IndexOutOfBoundsException.class;
    private static final Class<?> WRONG = IllegalArgumentException.class;
    private static final Class<?> FULL = IllegalStateException.class;
    private static final Class<?> NOT_THERE = java.util.NoSuchElementException.class;

    public static void main(String[] args) {
        promise1NewObject();
        promise2Rebind();
        promise3Put();
        promise3PutIntoTheBoundedBook();
        promise4PutNew();
        promise5Add();
        promise6Halve();
        promise7AddToAll();
        promise8Replace();
        promise9Remove();
        promise10RemovePair();
        promise11Fill();
        promise12Pour();
        promise12PourIntoTheBoundedBook();
        promise13Copy();
        promise14Clear();
        fullBooks();
        Expect.finish("BooksTest");
    }

    private static void promise1NewObject() {
        Arrivalbooks x = new Arrivalbooks();
        for (int book = 0; book < 4; book++) {
            Expect.due("1 size(" + book + ")", x.size(book), 0);
        }
        for (int cursor = 0; cursor < 3; cursor++) {
            Expect.due("1 bookOf(" + cursor + ")", x.bookOf(cursor), Arrivalbooks.NONE);
        }
        Expect.due("1 fill(2, 0, 1, 9), bound 8", x.fill(2, 0, 1, 9), 8);
        Expect.due("1 fullness()", x.fullness(), 1.0f);
        Expect.due("1 another new object is empty", new Arrivalbooks().size(2), 0);
    }

    private static void promise2Rebind() {
        Arrivalbooks x = new Arrivalbooks();
        Expect.putAll(x, 2, 1, 1, 2, 2, 3, 3);
        for (int bound : new int[] {0, 41, -1, Integer.MIN_VALUE, Integer.MAX_VALUE}) {
            Expect.dueThrow(x, "2 rebind(" + bound + ")", WRONG, () -> x.rebind(bound));
        }
        Expect.due("2 rebind(40)", x.rebind(40), 3);
        Expect.due("2 size(2)", x.size(2), 0);
        Expect.due("2 hasKey(2, 1)", x.hasKey(2, 1), false);
        Expect.due("2 fill of 60, bound 40", x.fill(2, 0, 1, 60), 40);
        Expect.due("2 keyAt(2, 0)", x.keyAt(2, 0), 20);
        Expect.due("2 rebind(1)", x.rebind(1), 40);
        Expect.putAll(x, 2, 5, 50, 6, 60);
        Expect.due("2 bound 1", Expect.pairs(x, 2), "6=60");
        Expect.due("2 rebind(1), the same bound", x.rebind(1), 1);
        Expect.due("2 rebind(1) empties", x.size(2), 0);
    }

    private static void promise3Put() {
        Arrivalbooks x = new Arrivalbooks();
        Expect.due("3 put(0, 5, 1)", x.put(0, 5, 1), false);
        Expect.due("3 put(0, -7, 2)", x.put(0, -7, 2), false);
        Expect.due("3 put(0, 5, 3)", x.put(0, 5, 3), true);
        Expect.due("3 a key that is there keeps its place", Expect.pairs(x, 0), "5=3 -7=2");
        Expect.due("3 put(1, 5, 9)", x.put(1, 5, 9), false);
        Expect.due("3 the other book", Expect.pairs(x, 1), "5=9");
        x.remove(0, 5);
        x.put(0, 5, 4);
        Expect.due("3 a key that comes again is last", Expect.pairs(x, 0), "-7=2 5=4");
        for (int book : new int[] {-1, 4, Integer.MIN_VALUE, Integer.MAX_VALUE}) {
            Expect.dueThrow(x, "3 put(" + book + ", 1, 1)", NO_PLACE, () -> x.put(book, 1, 1));
        }
        Expect.dueThrow(x, "3 put(3, 1, 1)", WRONG, () -> x.put(3, 1, 1));
    }

    private static void promise3PutIntoTheBoundedBook() {
        Arrivalbooks x = new Arrivalbooks();
        x.rebind(2);
        Expect.putAll(x, 2, 1, 10, 2, 20);
        Expect.due("3 put(2, 1, 11)", x.put(2, 1, 11), true);
        Expect.due("3 nothing is let go for a key that is there", Expect.pairs(x, 2), "1=11 2=20");
        Expect.due("3 put(2, 3, 30)", x.put(2, 3, 30), false);
        Expect.due("3 the first pair is let go", Expect.pairs(x, 2), "2=20 3=30");
        Expect.due("3 put(2, 1, 12)", x.put(2, 1, 12), false);
        Expect.due("3 and comes again at the end", Expect.pairs(x, 2), "3=30 1=12");
    }

    private static void promise4PutNew() {
        Arrivalbooks x = new Arrivalbooks();
        Expect.due("4 putNew(1, 5, 1)", x.putNew(1, 5, 1), 1);
        Expect.due("4 putNew(1, 6, 2)", x.putNew(1, 6, 2), 2);
        Expect.due("4 putNew(1, 5, 3)", x.putNew(1, 5, 3), 1);
        Expect.due("4 the first value stays", Expect.pairs(x, 1), "5=1 6=2");
        Expect.dueThrow(x, "4 putNew(4, 1, 1)", NO_PLACE, () -> x.putNew(4, 1, 1));
        Expect.dueThrow(x, "4 putNew(-1, 1, 1)", NO_PLACE, () -> x.putNew(-1, 1, 1));
        Expect.dueThrow(x, "4 putNew(2, 1, 1)", WRONG, () -> x.putNew(2, 1, 1));
        Expect.dueThrow(x, "4 putNew(3, 1, 1)", WRONG, () -> x.putNew(3, 1, 1));
    }

    private static void promise5Add() {
        Arrivalbooks x = new Arrivalbooks();
        Expect.due("5 add(0, 5, 7)", x.add(0, 5, 7), 7);
        Expect.due("5 add(0, 6, 0)", x.add(0, 6, 0), 0);
        Expect.due("5 add(0, 5, -3)", x.add(0, 5, -3), 4);
        Expect.due("5 the place stays", Expect.pairs(x, 0), "5=4 6=0");
        Expect.due("5 to 0, and it stays", x.add(0, 5, -4), 0);
        Expect.due("5 still two", x.size(0), 2);
        x.put(0, 8, Integer.MAX_VALUE);
        Expect.due("5 goes round", x.add(0, 8, 1), Integer.MIN_VALUE);
        Expect.due("5 and is kept so", x.get(0, 8, 0), Integer.MIN_VALUE);
        Expect.dueThrow(x, "5 add(4, 1, 1)", NO_PLACE, () -> x.add(4, 1, 1));
        Expect.dueThrow(x, "5 add(-1, 1, 1)", NO_PLACE, () -> x.add(-1, 1, 1));
        Expect.dueThrow(x, "5 add(2, 1, 1)", WRONG, () -> x.add(2, 1, 1));
        Expect.dueThrow(x, "5 add(3, 1, 1)", WRONG, () -> x.add(3, 1, 1));
    }

    private static void promise6Halve() {
        Arrivalbooks x = new Arrivalbooks();
        Expect.putAll(x, 0, 1, 7, 2, -7, 3, 1, 4, -1, 5, 0, 6, Integer.MIN_VALUE);
        Expect.due("6 halve(0, 1)", x.halve(0, 1), true);
        Expect.due("6 halve(0, 2)", x.halve(0, 2), true);
        Expect.due("6 halve(0, 6)", x.halve(0, 6), true);
        Expect.due("6 toward 0", Expect.pairs(x, 0), "1=3 2=-3 3=1 4=-1 5=0 6=-1073741824");
        Expect.due("6 halve(0, 3)", x.halve(0, 3), false);
        Expect.due("6 halve(0, 4)", x.halve(0, 4), false);
        Expect.due("6 halve(0, 5)", x.halve(0, 5), false);
        Expect.due("6 gone at 0", Expect.pairs(x, 0), "1=3 2=-3 6=-1073741824");
        Expect.due("6 halve(0, 9)", x.halve(0, 9), false);
        Expect.due("6 a key that is not there", x.size(0), 3);
        Expect.dueThrow(x, "6 halve(4, 1)", NO_PLACE, () -> x.halve(4, 1));
        Expect.dueThrow(x, "6 halve(-1, 1)", NO_PLACE, () -> x.halve(-1, 1));
        Expect.dueThrow(x, "6 halve(2, 1)", WRONG, () -> x.halve(2, 1));
        Expect.dueThrow(x, "6 halve(3, 1)", WRONG, () -> x.halve(3, 1));
    }

    private static void promise7AddToAll() {
        Arrivalbooks x = new Arrivalbooks();
        Expect.due("7 addToAll(0, 1), empty", x.addToAll(0, 1), 0);
        Expect.putAll(x, 0, 1, 10, 2, Integer.MAX_VALUE, 3, -1);
        Expect.due("7 addToAll(0, 1)", x.addToAll(0, 1), 3);
        Expect.due("7 all, going round", Expect.pairs(x, 0), "1=11 2=-2147483648 3=0");
        Expect.putAll(x, 2, 4, 4, 5, 5);
        Expect.due("7 addToAll(2, -4)", x.addToAll(2, -4), 2);
        Expect.due("7 the bounded book too", Expect.pairs(x, 2), "4=0 5=1");
        x.offer(1);
        Expect.dueThrow(x, "7 addToAll(4, 1)", NO_PLACE, () -> x.addToAll(4, 1));
        Expect.dueThrow(x, "7 addToAll(-1, 1)", NO_PLACE, () -> x.addToAll(-1, 1));
        Expect.dueThrow(x, "7 addToAll(3, 1)", WRONG, () -> x.addToAll(3, 1));
    }

    private static void promise8Replace() {
        Arrivalbooks x = new Arrivalbooks();
        Expect.putAll(x, 0, 1, 10, 2, 20);
        Expect.due("8 replace(0, 1, 11)", x.replace(0, 1, 11), true);
        Expect.due("8 replace(0, 3, 33)", x.replace(0, 3, 33), false);
        Expect.due("8 the place stays", Expect.pairs(x, 0), "1=11 2=20");
        x.put(2, 7, 70);
        Expect.due("8 replace(2, 7, 71)", x.replace(2, 7, 71), true);
        Expect.due("8 the bounded book too", Expect.pairs(x, 2), "7=71");
        x.offer(1);
        Expect.dueThrow(x, "8 replace(4, 1, 1)", NO_PLACE, () -> x.replace(4, 1, 1));
        Expect.dueThrow(x, "8 replace(-1, 1, 1)", NO_PLACE, () -> x.replace(-1, 1, 1));
        Expect.dueThrow(x, "8 replace(3, 1, 5)", WRONG, () -> x.replace(3, 1, 5));
    }

    private static void promise9Remove() {
        Arrivalbooks x = new Arrivalbooks();
        Expect.putAll(x, 0, 1, 10, 2, 20, 3, 30, 4, 40);
        Expect.due("9 remove(0, 2)", x.remove(0, 2), 20);
        Expect.due("9 remove(0, 1)", x.remove(0, 1), 10);
        Expect.due("9 remove(0, 4)", x.remove(0, 4), 40);
        Expect.due("9 the others stay", Expect.pairs(x, 0), "3=30");
        Expect.dueThrow(x, "9 remove(0, 4)", NOT_THERE, () -> x.remove(0, 4));
        x.put(2, 7, 70);
        Expect.due("9 remove(2, 7)", x.remove(2, 7), 70);
        x.offer(1);
        Expect.dueThrow(x, "9 remove(4, 1)", NO_PLACE, () -> x.remove(4, 1));
        Expect.dueThrow(x, "9 remove(-1, 1)", NO_PLACE, () -> x.remove(-1, 1));
        Expect.dueThrow(x, "9 remove(3, 1)", WRONG, () -> x.remove(3, 1));
        Expect.dueThrow(x, "9 remove(3, 2), not there either", WRONG, () -> x.remove(3, 2));
    }

    private static void promise10RemovePair() {
        Arrivalbooks x = new Arrivalbooks();
        Expect.putAll(x, 0, 1, 10, 2, 20, 3, 0);
        Expect.due("10 removePair(0, 1, 11)", x.removePair(0, 1, 11), false);
        Expect.due("10 removePair(0, 4, 0)", x.removePair(0, 4, 0), false);
        Expect.due("10 nothing is removed", Expect.pairs(x, 0), "1=10 2=20 3=0");
        Expect.due("10 removePair(0, 1, 10)", x.removePair(0, 1, 10), true);
        Expect.due("10 it is removed", Expect.pairs(x, 0), "2=20 3=0");
        x.put(2, 7, 70);
        Expect.due("10 removePair(2, 7, 70)", x.removePair(2, 7, 70), true);
        x.offer(1);
        Expect.dueThrow(x, "10 removePair(4, 1, 1)", NO_PLACE, () -> x.removePair(4, 1, 1));
        Expect.dueThrow(x, "10 removePair(-1, 1, 1)", NO_PLACE, () -> x.removePair(-1, 1, 1));
        Expect.dueThrow(x, "10 removePair(3, 1, 1)", WRONG, () -> x.removePair(3, 1, 1));
    }

    private static void promise11Fill() {
        Arrivalbooks x = new Arrivalbooks();
        Expect.putAll(x, 0, 4, 44, 1, 11);
        Expect.due("11 fill(0, 2, 2, 3)", x.fill(0, 2, 2, 3), 4);
        Expect.due("11 each with 0", Expect.pairs(x, 0), "4=0 1=11 2=0 6=0");
        Expect.due("11 fill(0, 9, 1, 0)", x.fill(0, 9, 1, 0), 4);
        Expect.due("11 fill(0, 1, 0, 60)", x.fill(0, 1, 0, 60), 4);
        Expect.due("11 fill(1, 2147483646, 1, 4)", x.fill(1, 2147483646, 1, 4), 4);
        Expect.due("11 keys go round", Expect.pairs(x, 1),
                "2147483646=0 2147483647=0 -2147483648=0 -2147483647=0");
        x.rebind(3);
        Expect.putAll(x, 2, 3, 33, 9, 99);
        Expect.due("11 fill(2, 1, 1, 3)", x.fill(2, 1, 1, 3), 3);
        // 1 comes, 2 comes and lets 3 go, 3 comes anew and lets 9 go
        Expect.due("11 one after the other", Expect.pairs(x, 2), "1=0 2=0 3=0");
        Expect.dueThrow(x, "11 fill(4, 0, 1, 61)", NO_PLACE, () -> x.fill(4, 0, 1, 61));
        Expect.dueThrow(x, "11 fill(-1, 0, 1, 1)", NO_PLACE, () -> x.fill(-1, 0, 1, 1));
        Expect.dueThrow(x, "11 fill(3, 0, 1, 0)", WRONG, () -> x.fill(3, 0, 1, 0));
        for (int many : new int[] {-1, 61, Integer.MIN_VALUE, Integer.MAX_VALUE}) {
            Expect.dueThrow(x, "11 fill(0, 0, 1, " + many + ")", WRONG,
                    () -> x.fill(0, 0, 1, many));
        }
        promise11FillBeyond140();
    }

    private static void promise11FillBeyond140() {
        Arrivalbooks x = new Arrivalbooks();
        Expect.fillUpTo(x, 1, 140);
        Expect.due("11 fill of 60 behind 140", x.fill(1, 1000, 1, 60), 200);
        x.clear(1);
        Expect.fillUpTo(x, 1, 141);
        Expect.dueThrow(x, "11 fill of 0 behind 141", FULL, () -> x.fill(1, 0, 1, 0));
        Expect.dueThrow(x, "11 fill of 61 behind 141", WRONG, () -> x.fill(1, 0, 1, 61));
    }

    private static void promise12Pour() {
        Arrivalbooks x = new Arrivalbooks();
        Expect.putAll(x, 0, 1, 10, 2, 20, 3, 30);
        Expect.putAll(x, 1, 3, 33, 4, 44);
        Expect.due("12 pour(0, 1)", x.pour(0, 1), 4);
        Expect.due("12 the other one", Expect.pairs(x, 1), "3=30 4=44 1=10 2=20");
        Expect.due("12 the first one", Expect.pairs(x, 0), "1=10 2=20 3=30");
        x.offer(9);
        x.offer(2);
        x.offer(9);
        Expect.due("12 pour(3, 0)", x.pour(3, 0), 4);
        Expect.due("12 out of the queue", Expect.pairs(x, 0), "1=10 2=1 3=30 9=2");
        Expect.due("12 the queue stays", Expect.pairs(x, 3), "9=2 2=1");
        Expect.due("12 pour of an empty book", x.pour(2, 0), 4);
        Expect.dueThrow(x, "12 pour(4, 0)", NO_PLACE, () -> x.pour(4, 0));
        Expect.dueThrow(x, "12 pour(0, 4)", NO_PLACE, () -> x.pour(0, 4));
        Expect.dueThrow(x, "12 pour(-1, 0)", NO_PLACE, () -> x.pour(-1, 0));
        Expect.dueThrow(x, "12 pour(4, 3)", NO_PLACE, () -> x.pour(4, 3));
        Expect.dueThrow(x, "12 pour(0, -1)", NO_PLACE, () -> x.pour(0, -1));
        Expect.dueThrow(x, "12 pour(4, 4)", NO_PLACE, () -> x.pour(4, 4));
        Expect.dueThrow(x, "12 pour(0, 3)", WRONG, () -> x.pour(0, 3));
        Expect.dueThrow(x, "12 pour(3, 3)", WRONG, () -> x.pour(3, 3));
        Expect.dueThrow(x, "12 pour(1, 1)", WRONG, () -> x.pour(1, 1));
        Expect.dueThrow(x, "12 pour(2, 2)", WRONG, () -> x.pour(2, 2));
    }

    private static void promise12PourIntoTheBoundedBook() {
        Arrivalbooks x = new Arrivalbooks();
        x.rebind(3);
        Expect.putAll(x, 2, 7, 70, 8, 80, 9, 90);
        Expect.putAll(x, 0, 8, 81, 5, 50, 6, 60, 8, 82, 7, 71);
        Expect.due("12 pour(0, 2)", x.pour(0, 2), 3);
        // 8 is there, 5 lets 7 go, 6 lets 8 go, 7 lets 9 go
        Expect.due("12 one after the other", Expect.pairs(x, 2), "5=50 6=60 7=71");
        x.clear(0);
        x.fill(0, 0, 1, 60);
        x.fill(0, 60, 1, 60);
        x.fill(0, 120, 1, 20);
        x.fill(0, 140, 1, 60);
        Expect.due("12 the bounded book refuses no pairs", x.pour(0, 2), 3);
        Expect.due("12 the last ones stay", Expect.pairs(x, 2), "197=0 198=0 199=0");
    }

    private static void promise13Copy() {
        Arrivalbooks x = new Arrivalbooks();
        Expect.putAll(x, 0, 3, 30, 1, 10);
        Expect.putAll(x, 1, 1, 11, 2, 22, 3, 33);
        Expect.due("13 copy(0, 1)", x.copy(0, 1), 2);
        Expect.due("13 the copy", Expect.pairs(x, 1), "3=30 1=10");
        x.put(0, 3, 31);
        Expect.due("13 the copy is another book", Expect.pairs(x, 1), "3=30 1=10");
        Expect.putAll(x, 2, 5, 50, 4, 40);
        Expect.due("13 copy(2, 0)", x.copy(2, 0), 2);
        Expect.due("13 of the bounded book", Expect.pairs(x, 0), "5=50 4=40");
        x.offer(8);
        x.offer(8);
        Expect.due("13 copy(3, 0)", x.copy(3, 0), 1);
        Expect.due("13 of the queue", Expect.pairs(x, 0), "8=2");
        x.poll();
        Expect.due("13 copy of an empty book", x.copy(3, 0), 0);
        Expect.dueThrow(x, "13 copy(4, 0)", NO_PLACE, () -> x.copy(4, 0));
        Expect.dueThrow(x, "13 copy(0, 4)", NO_PLACE, () -> x.copy(0, 4));
        Expect.dueThrow(x, "13 copy(-1, 3)", NO_PLACE, () -> x.copy(-1, 3));
        Expect.dueThrow(x, "13 copy(4, 4)", NO_PLACE, () -> x.copy(4, 4));
        Expect.dueThrow(x, "13 copy(0, 2)", WRONG, () -> x.copy(0, 2));
        Expect.dueThrow(x, "13 copy(0, 3)", WRONG, () -> x.copy(0, 3));
        Expect.dueThrow(x, "13 copy(0, 0)", WRONG, () -> x.copy(0, 0));
        Expect.dueThrow(x, "13 copy(1, 1)", WRONG, () -> x.copy(1, 1));
    }

    private static void promise14Clear() {
        Arrivalbooks x = new Arrivalbooks();
        Expect.putAll(x, 0, 3, 30, 1, 10);
        Expect.putAll(x, 2, 3, 30);
        Expect.due("14 clear(0)", x.clear(0), 2);
        Expect.due("14 clear(0) again", x.clear(0), 0);
        Expect.due("14 size(0)", x.size(0), 0);
        Expect.due("14 size(2)", x.size(2), 1);
        Expect.due("14 clear(2)", x.clear(2), 1);
        Expect.due("14 the bound stays", x.fill(2, 0, 1, 20), 8);
        x.offer(1);
        Expect.dueThrow(x, "14 clear(4)", NO_PLACE, () -> x.clear(4));
        Expect.dueThrow(x, "14 clear(-1)", NO_PLACE, () -> x.clear(-1));
        Expect.dueThrow(x, "14 clear(3)", WRONG, () -> x.clear(3));
    }

    /** What a plain book with 200 pairs refuses, and what it does not (promises 3, 4, 5, 12). */
    private static void fullBooks() {
        Arrivalbooks x = new Arrivalbooks();
        Expect.fillUpTo(x, 0, 199);
        Expect.due("3 put of the pair 200", x.put(0, 199, 5), false);
        Expect.dueThrow(x, "3 put of one more", FULL, () -> x.put(0, 200, 1));
        Expect.dueThrow(x, "4 putNew of one more", FULL, () -> x.putNew(0, 200, 1));
        Expect.dueThrow(x, "5 add of one more", FULL, () -> x.add(0, 200, 1));
        Expect.due("3 put to a key that is there", x.put(0, 199, 6), true);
        Expect.due("4 putNew to a key that is there", x.putNew(0, 199, 7), 6);
        Expect.due("5 add to a key that is there", x.add(0, 199, 1), 7);
        Expect.putAll(x, 1, 0, 1, 200, 2);
        Expect.dueThrow(x, "12 pour of one more", FULL, () -> x.pour(1, 0));
        x.remove(1, 200);
        Expect.due("12 pour of a key that is there", x.pour(1, 0), 200);
        Expect.due("12 its value", x.valueAt(0, 0), 1);
        x.remove(0, 100);
        x.put(1, 300, 3);
        Expect.due("12 pour up to 200", x.pour(1, 0), 200);
        Expect.due("12 at the end", x.keyAt(0, 199), 300);
        Expect.due("13 copy of 200", x.copy(0, 1), 200);
        Expect.due("13 in the same order", x.areAlike(0, 1), true);
        Expect.due("41 errors()", x.errors(), 0);
    }
}
