/** Promises 24 to 41: questions, the output and the theorem. */
public final class QuestionsTest {
    private static final Class<?> NO_PLACE = IndexOutOfBoundsException.class;
    private static final Class<?> WRONG = IllegalArgumentException.class;
    private static final Class<?> NOT_THERE = java.util.NoSuchElementException.class;
    private static final int[] NO_BOOKS = {-1, 4, Integer.MIN_VALUE, Integer.MAX_VALUE};

    public static void main(String[] args) {
        promises24To27And30();
        promises28And29();
        promise31AreEqual();
        promise32AreAlike();
        promise33Hash();
        promise34Sum();
        promise35Write();
        promise36OutputAt();
        promise37IsAddRefused();
        promise38IsNothingRefused();
        promise39Mean();
        promise40Fullness();
        promise41Errors();
        noSuchBook();
        Expect.finish("QuestionsTest");
    }

    private static Arrivalbooks withBooks() {
        Arrivalbooks x = new Arrivalbooks();
        Expect.putAll(x, 0, 3, 30, -1, 10, 2, 0);
        Expect.putAll(x, 2, 7, 70);
        x.offer(8);
        x.offer(9);
        x.offer(9);
        return x;
    }

    private static void promises24To27And30() {
        Arrivalbooks x = withBooks();
        int[] sizes = {3, 0, 1, 2};
        for (int book = 0; book < 4; book++) {
            Expect.due("24 size(" + book + ")", x.size(book), sizes[book]);
        }
        Expect.due("25 hasKey(0, -1)", x.hasKey(0, -1), true);
        Expect.due("25 hasKey(0, 10)", x.hasKey(0, 10), false);
        Expect.due("25 hasKey(1, 0)", x.hasKey(1, 0), false);
        Expect.due("25 hasKey(3, 9)", x.hasKey(3, 9), true);
        Expect.due("26 hasValue(0, 0)", x.hasValue(0, 0), true);
        Expect.due("26 hasValue(0, 30)", x.hasValue(0, 30), true);
        Expect.due("26 hasValue(0, 3)", x.hasValue(0, 3), false);
        Expect.due("26 hasValue(1, 0)", x.hasValue(1, 0), false);
        Expect.due("26 hasValue(3, 2)", x.hasValue(3, 2), true);
        Expect.due("27 get(0, 3, 5)", x.get(0, 3, 5), 30);
        Expect.due("27 get(0, 2, 5)", x.get(0, 2, 5), 0);
        Expect.due("27 get(0, 4, 5)", x.get(0, 4, 5), 5);
        Expect.due("27 get(2, 7, 5)", x.get(2, 7, 5), 70);
        Expect.due("27 get(3, 9, 5)", x.get(3, 9, 5), 2);
        Expect.due("30 placeOf(0, 3)", x.placeOf(0, 3), 0);
        Expect.due("30 placeOf(0, 2)", x.placeOf(0, 2), 2);
        Expect.due("30 placeOf(0, 4)", x.placeOf(0, 4), Arrivalbooks.NONE);
        Expect.due("30 placeOf(1, 0)", x.placeOf(1, 0), Arrivalbooks.NONE);
        x.remove(0, 2);
        Expect.due("25 hasKey(0, 2), removed", x.hasKey(0, 2), false);
        Expect.due("26 hasValue(0, 0), removed", x.hasValue(0, 0), false);
        Expect.due("27 get(0, 2, 5), removed", x.get(0, 2, 5), 5);
        Expect.due("30 placeOf(0, 2), removed", x.placeOf(0, 2), Arrivalbooks.NONE);
    }

    private static void promises28And29() {
        Arrivalbooks x = withBooks();
        int[] keys = {3, -1, 2};
        int[] values = {30, 10, 0};
        for (int place = 0; place < 3; place++) {
            Expect.due("28 keyAt(0, " + place + ")", x.keyAt(0, place), keys[place]);
            Expect.due("29 valueAt(0, " + place + ")", x.valueAt(0, place), values[place]);
        }
        for (int place : new int[] {-1, 3, 200, Integer.MIN_VALUE, Integer.MAX_VALUE}) {
            Expect.dueThrow(x, "28 keyAt(0, " + place + ")", NO_PLACE, () -> x.keyAt(0, place));
            Expect.dueThrow(x, "29 valueAt(0, " + place + ")", NO_PLACE,
                    () -> x.valueAt(0, place));
        }
        Expect.dueThrow(x, "28 keyAt(1, 0)", NO_PLACE, () -> x.keyAt(1, 0));
        Expect.dueThrow(x, "29 valueAt(1, 0)", NO_PLACE, () -> x.valueAt(1, 0));
    }

    private static void promise31AreEqual() {
        Arrivalbooks x = new Arrivalbooks();
        Expect.due("31 empty ones", x.areEqual(0, 3), true);
        Expect.putAll(x, 0, 1, 10, 2, 20);
        Expect.due("31 one empty", x.areEqual(0, 1), false);
        Expect.due("31 the other empty", x.areEqual(1, 0), false);
        Expect.putAll(x, 1, 2, 20, 1, 10);
        Expect.due("31 in any order", x.areEqual(0, 1), true);
        Expect.due("31 itself", x.areEqual(0, 0), true);
        x.put(1, 1, 11);
        Expect.due("31 another value", x.areEqual(0, 1), false);
        x.put(1, 1, 10);
        x.put(1, 3, 30);
        Expect.due("31 one more", x.areEqual(0, 1), false);
        Expect.due("31 one less", x.areEqual(1, 0), false);
        x.put(0, 4, 30);
        Expect.due("31 another key", x.areEqual(0, 1), false);
        x.clear(0);
        x.put(0, 8, 1);
        x.offer(8);
        Expect.due("31 with the queue", x.areEqual(0, 3), true);
    }

    private static void promise32AreAlike() {
        Arrivalbooks x = new Arrivalbooks();
        Expect.due("32 empty ones", x.areAlike(2, 3), true);
        Expect.putAll(x, 0, 1, 10, 2, 20);
        Expect.putAll(x, 1, 2, 20, 1, 10);
        Expect.due("32 another order", x.areAlike(0, 1), false);
        Expect.putAll(x, 2, 1, 10, 2, 20);
        Expect.due("32 the same order", x.areAlike(0, 2), true);
        Expect.due("32 itself", x.areAlike(1, 1), true);
        x.put(2, 2, 21);
        Expect.due("32 another value", x.areAlike(0, 2), false);
        x.put(2, 2, 20);
        x.put(2, 1, 11);
        Expect.due("32 another value at the first place", x.areAlike(0, 2), false);
        x.put(2, 1, 10);
        x.put(2, 3, 30);
        Expect.due("32 one more", x.areAlike(0, 2), false);
        Expect.due("32 one less", x.areAlike(2, 0), false);
        Expect.due("32 one empty", x.areAlike(0, 3), false);
        x.clear(2);
        Expect.putAll(x, 2, 4, 10, 2, 20);
        Expect.due("32 another key at the first place", x.areAlike(0, 2), false);
    }

    private static void promise33Hash() {
        Arrivalbooks x = new Arrivalbooks();
        Expect.due("33 empty", x.hash(0), 0);
        Expect.putAll(x, 0, 5, 3, -1, 10);
        Expect.due("33 hash(0)", x.hash(0), (5 ^ 3) + (-1 ^ 10));
        Expect.putAll(x, 1, Integer.MAX_VALUE, 0, 0, Integer.MAX_VALUE);
        Expect.due("33 goes round", x.hash(1), -2);
    }

    private static void promise34Sum() {
        Arrivalbooks x = new Arrivalbooks();
        Expect.due("34 empty", x.sum(0), 0L);
        Expect.putAll(x, 0, 5, 3, -1, 10);
        Expect.due("34 sum(0)", x.sum(0), (5L + 9L) + 2L * (-1L + 30L));
        Expect.putAll(x, 1, 1, Integer.MAX_VALUE, Integer.MIN_VALUE, Integer.MIN_VALUE);
        Expect.due("34 longs", x.sum(1), (1L + 3L * 2147483647L) + 2L * (-4L * 2147483648L));
    }

    private static String written(Arrivalbooks x, int book) {
        int length = x.write(book);
        StringBuilder text = new StringBuilder();
        for (int index = 0; index < length; index++) {
            text.append((char) x.outputAt(index));
        }
        Expect.due("35 the output ends there", Expect.outcome(() -> x.outputAt(length)),
                "throws java.util.NoSuchElementException");
        return text.toString();
    }

    private static void promise35Write() {
        Arrivalbooks x = new Arrivalbooks();
        Expect.due("35 empty", written(x, 0), "{}");
        Expect.putAll(x, 0, 3, 7, -1, 0);
        Expect.due("35 write(0)", written(x, 0), "{3=7, -1=0}");
        Expect.putAll(x, 1, Integer.MIN_VALUE, Integer.MAX_VALUE, 10, -100, 1000000000, 999999999);
        Expect.due("35 write(1)", written(x, 1),
                "{-2147483648=2147483647, 10=-100, 1000000000=999999999}");
        x.put(2, 0, -9);
        Expect.due("35 write(2)", written(x, 2), "{0=-9}");
        x.offer(105);
        Expect.due("35 write(3)", written(x, 3), "{105=1}");
        promise35WriteTheLongest();
    }

    private static void promise35WriteTheLongest() {
        Arrivalbooks x = new Arrivalbooks();
        for (int key = 0; key < 200; key++) {
            x.put(0, Integer.MIN_VALUE + key, Integer.MIN_VALUE);
        }
        Expect.due("35 the longest output", x.write(0), 5000);
        Expect.due("36 its last sign but one", x.outputAt(4998), (int) '8');
        Expect.due("36 its last sign", x.outputAt(4999), (int) '}');
        Expect.dueThrow(x, "36 outputAt(5000)", NOT_THERE, () -> x.outputAt(5000));
    }

    private static void promise36OutputAt() {
        Arrivalbooks x = new Arrivalbooks();
        Expect.dueThrow(x, "36 outputAt(0), empty at first", NOT_THERE, () -> x.outputAt(0));
        Expect.putAll(x, 0, 3, 7, -1, 0);
        x.write(0);
        x.clear(0);
        String text = "{3=7, -1=0}";
        for (int index = 0; index < text.length(); index++) {
            Expect.due("36 outputAt(" + index + ")", x.outputAt(index), (int) text.charAt(index));
        }
        for (int index : new int[] {-1, 11, Integer.MIN_VALUE, Integer.MAX_VALUE}) {
            Expect.dueThrow(x, "36 outputAt(" + index + ")", NOT_THERE, () -> x.outputAt(index));
        }
        Expect.due("36 write() that throws", Expect.outcome(() -> x.write(4)),
                "throws java.lang.IndexOutOfBoundsException");
        Expect.due("36 leaves the output", x.outputAt(10), (int) '}');
        x.write(0);
        Expect.dueThrow(x, "36 in place of what was there", NOT_THERE, () -> x.outputAt(2));
    }

    private static void promise37IsAddRefused() {
        Arrivalbooks x = withBooks();
        for (int book = 0; book < 4; book++) {
            int b = book;
            for (int kind = 0; kind < 3; kind++) {
                Expect.due("37 isAddRefused", x.isAddRefused(book, kind), true);
            }
            Expect.dueThrow(x, "37 kind 3", WRONG, () -> x.isAddRefused(b, 3));
            Expect.dueThrow(x, "37 kind -1", WRONG, () -> x.isAddRefused(b, -1));
        }
        Expect.dueThrow(x, "37 isAddRefused(4, 3)", NO_PLACE, () -> x.isAddRefused(4, 3));
        Expect.dueThrow(x, "37 isAddRefused(-1, 0)", NO_PLACE, () -> x.isAddRefused(-1, 0));
    }

    private static void promise38IsNothingRefused() {
        Arrivalbooks x = withBooks();
        String before = Expect.state(x);
        Expect.due("38 a key that is there", x.isNothingRefused(0, 3), true);
        Expect.due("38 a key that is not there", x.isNothingRefused(1, 3), true);
        Expect.due("38 nothing changes", Expect.state(x), before);
        Expect.dueThrow(x, "38 isNothingRefused(2, 7)", WRONG, () -> x.isNothingRefused(2, 7));
        Expect.dueThrow(x, "38 isNothingRefused(3, 8)", WRONG, () -> x.isNothingRefused(3, 8));
    }

    private static void promise39Mean() {
        Arrivalbooks x = new Arrivalbooks();
        Expect.due("39 empty", x.mean(0), 0.0);
        Expect.putAll(x, 0, 1, 1, 2, 0, 3, 0);
        Expect.due("39 mean(0)", x.mean(0), 1.0 / 3.0);
        Expect.putAll(x, 1, 1, Integer.MAX_VALUE, 2, Integer.MAX_VALUE);
        Expect.due("39 the sum is a long", x.mean(1), 2147483647.0);
        Expect.putAll(x, 2, 1, -7, 2, 2);
        Expect.due("39 below 0", x.mean(2), -2.5);
        x.offer(5);
        x.offer(5);
        Expect.due("39 of the queue", x.mean(3), 2.0);
    }

    private static void promise40Fullness() {
        Arrivalbooks x = new Arrivalbooks();
        Expect.due("40 empty", x.fullness(), 0.0f);
        x.put(2, 1, 1);
        Expect.due("40 1 of 8", x.fullness(), 0.125f);
        x.rebind(3);
        x.put(2, 1, 1);
        Expect.due("40 1 of 3", x.fullness(), 1.0f / 3.0f);
        x.fill(2, 5, 1, 10);
        Expect.due("40 full", x.fullness(), 1.0f);
        x.clear(2);
        Expect.due("40 cleared", x.fullness(), 0.0f);
        x.rebind(1);
        x.put(2, 1, 1);
        Expect.due("40 1 of 1", x.fullness(), 1.0f);
        x.rebind(40);
        x.fill(2, 0, 1, 7);
        Expect.due("40 7 of 40", x.fullness(), 7.0f / 40.0f);
    }

    private static void promise41Errors() {
        Arrivalbooks x = withBooks();
        Expect.due("41 errors()", x.errors(), 0);
        x.open(0, 0, Arrivalbooks.KEYS);
        x.next(0);
        x.write(0);
        String before = Expect.state(x);
        Expect.due("41 errors() again", x.errors(), 0);
        Expect.due("41 no book changes", Expect.state(x), before);
        Expect.due("41 nor the output", x.outputAt(1), (int) '3');
        x.rebind(2);
        x.fill(2, 0, 1, 9);
        x.toEnd(8);
        x.pour(2, 0);
        x.copy(0, 1);
        x.remove(0, -1);
        x.halve(1, 2);
        Expect.due("41 errors() behind changes", x.errors(), 0);
        Expect.due("41 of a new object", new Arrivalbooks().errors(), 0);
    }

    private static void noSuchBook() {
        Arrivalbooks x = withBooks();
        for (int b : NO_BOOKS) {
            Expect.dueThrow(x, "24 size(" + b + ")", NO_PLACE, () -> x.size(b));
            Expect.dueThrow(x, "25 hasKey(" + b + ")", NO_PLACE, () -> x.hasKey(b, 1));
            Expect.dueThrow(x, "26 hasValue(" + b + ")", NO_PLACE, () -> x.hasValue(b, 1));
            Expect.dueThrow(x, "27 get(" + b + ")", NO_PLACE, () -> x.get(b, 1, 1));
        }
        for (int b : NO_BOOKS) {
            Expect.dueThrow(x, "28 keyAt(" + b + ")", NO_PLACE, () -> x.keyAt(b, 0));
            Expect.dueThrow(x, "29 valueAt(" + b + ")", NO_PLACE, () -> x.valueAt(b, 0));
        }
        Arrivalbooks y = withBooks();
        for (int b : NO_BOOKS) {
            Expect.dueThrow(y, "30 placeOf(" + b + ")", NO_PLACE, () -> y.placeOf(b, 1));
            Expect.dueThrow(y, "31 areEqual(" + b + ", 0)", NO_PLACE, () -> y.areEqual(b, 0));
            Expect.dueThrow(y, "31 areEqual(0, " + b + ")", NO_PLACE, () -> y.areEqual(0, b));
            Expect.dueThrow(y, "32 areAlike(" + b + ", 0)", NO_PLACE, () -> y.areAlike(b, 0));
            Expect.dueThrow(y, "32 areAlike(0, " + b + ")", NO_PLACE, () -> y.areAlike(0, b));
        }
        Arrivalbooks z = withBooks();
        for (int b : NO_BOOKS) {
            Expect.dueThrow(z, "33 hash(" + b + ")", NO_PLACE, () -> z.hash(b));
            Expect.dueThrow(z, "34 sum(" + b + ")", NO_PLACE, () -> z.sum(b));
            Expect.dueThrow(z, "35 write(" + b + ")", NO_PLACE, () -> z.write(b));
            Expect.dueThrow(z, "38 isNothingRefused(" + b + ")", NO_PLACE,
                    () -> z.isNothingRefused(b, 1));
            Expect.dueThrow(z, "39 mean(" + b + ")", NO_PLACE, () -> z.mean(b));
        }
    }
}
