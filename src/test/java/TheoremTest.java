import java.lang.reflect.Field;

/**
 * Promise 41 from inside: errors() answers 0 always, so that whether it checks at all can be seen
 * only in an object whose rows have been spoilt by force. It leans on the names of private fields.
 */
public final class TheoremTest {
    private static Arrivalbooks x;

    public static void main(String[] args) throws ReflectiveOperationException {
        makeBooks();
        Expect.due("41 nothing spoilt", x.errors(), 0);
        keys("firstPlain")[0] = 2;
        keys("firstPlain")[1] = 1;
        Expect.due("41 two keys that changed places", x.errors(), 1);
        keys("bounded")[2] = 9;
        Expect.due("41 a key that never came, in another book", x.errors(), 2);

        makeBooks();
        keys("queue")[0] = 9;
        Expect.due("41 a key that never came, at the first place", x.errors(), 1);

        makeBooks();
        setCount("queue", 2);
        Expect.due("41 a key that was not removed is missing", x.errors(), 1);

        makeBooks();
        x.remove(1, 3);
        setCount("secondPlain", 3);
        Expect.due("41 a key that was removed is there", x.errors(), 1);

        makeBooks();
        keys("secondPlain")[2] = 1;
        Expect.due("41 a key that is there twice", x.errors(), 1);
        Expect.due("41 it changes no book", x.keyAt(1, 2), 1);
        Expect.finish("TheoremTest");
    }

    private static void makeBooks() {
        x = new Arrivalbooks();
        for (int key = 1; key <= 3; key++) {
            x.put(0, key, 10);
            x.put(1, key, 10);
            x.put(2, key, 10);
            x.offer(key);
        }
    }

    private static Object read(Object from, String name) throws ReflectiveOperationException {
        Field field = from.getClass().getDeclaredField(name);
        field.setAccessible(true);
        return field.get(from);
    }

    private static int[] keys(String book) throws ReflectiveOperationException {
        return (int[]) read(read(x, book), "keys");
    }

    private static void setCount(String book, int count) throws ReflectiveOperationException {
        Object changed = read(x, book);
        Field field = changed.getClass().getDeclaredField("count");
        field.setAccessible(true);
        field.setInt(changed, count);
    }
}
