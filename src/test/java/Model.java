import java.util.ArrayList;
import java.util.Iterator;
import java.util.LinkedHashMap;
import java.util.List;
import java.util.Map;
import java.util.NoSuchElementException;

/** The document once more, on the maps and iterators of the Java library, to compare with. */
final class Model {
    private final List<LinkedHashMap<Integer, Integer>> books = new ArrayList<>();
    private final int[] cursorBook = {-1, -1, -1};
    private final int[] cursorKind = new int[3];
    private final List<Iterator<Map.Entry<Integer, Integer>>> iterators = new ArrayList<>();
    private final List<Map.Entry<Integer, Integer>> last = new ArrayList<>();
    private int bound = 8;
    private String output = "";

    Model() {
        for (int book = 0; book < 4; book++) {
            books.add(new LinkedHashMap<>());
        }
        for (int cursor = 0; cursor < 3; cursor++) {
            iterators.add(null);
            last.add(null);
        }
    }

    private LinkedHashMap<Integer, Integer> any(int book) {
        if (book < 0 || book > 3) {
            throw new IndexOutOfBoundsException();
        }
        return books.get(book);
    }

    private LinkedHashMap<Integer, Integer> byHand(int book) {
        LinkedHashMap<Integer, Integer> map = any(book);
        refuse(book == 3);
        return map;
    }

    private LinkedHashMap<Integer, Integer> plain(int book) {
        LinkedHashMap<Integer, Integer> map = any(book);
        refuse(book > 1);
        return map;
    }

    private static void refuse(boolean wrong) {
        if (wrong) {
            throw new IllegalArgumentException();
        }
    }

    private static void refuseNow(boolean wrong) {
        if (wrong) {
            throw new IllegalStateException();
        }
    }

    private static void refuseNone(boolean none) {
        if (none) {
            throw new NoSuchElementException();
        }
    }

    private void close(int book, int kept) {
        for (int cursor = 0; cursor < 3; cursor++) {
            if (cursor != kept && cursorBook[cursor] == book) {
                cursorBook[cursor] = -1;
            }
        }
    }

    private void put1(int book, int key, int value) {
        LinkedHashMap<Integer, Integer> map = books.get(book);
        map.put(key, value);
        if (book == 2 && map.size() > bound) {
            map.remove(map.keySet().iterator().next());
        }
    }

    int rebind(int newBound) {
        refuse(newBound < 1 || newBound > 40);
        int had = books.get(2).size();
        books.get(2).clear();
        bound = newBound;
        close(2, -1);
        return had;
    }

    boolean put(int book, int key, int value) {
        LinkedHashMap<Integer, Integer> map = byHand(book);
        boolean was = map.containsKey(key);
        refuseNow(!was && book < 2 && map.size() == 200);
        put1(book, key, value);
        close(book, -1);
        return was;
    }

    int putNew(int book, int key, int value) {
        LinkedHashMap<Integer, Integer> map = plain(book);
        refuseNow(!map.containsKey(key) && map.size() == 200);
        map.putIfAbsent(key, value);
        close(book, -1);
        return map.get(key);
    }

    int add(int book, int key, int number) {
        LinkedHashMap<Integer, Integer> map = plain(book);
        refuseNow(!map.containsKey(key) && map.size() == 200);
        close(book, -1);
        return map.merge(key, number, (a, b) -> a + b);
    }

    boolean halve(int book, int key) {
        LinkedHashMap<Integer, Integer> map = plain(book);
        close(book, -1);
        return map.computeIfPresent(key, (k, v) -> v / 2 == 0 ? null : (Integer) (v / 2)) != null;
    }

    int addToAll(int book, int number) {
        LinkedHashMap<Integer, Integer> map = byHand(book);
        map.replaceAll((k, v) -> v + number);
        close(book, -1);
        return map.size();
    }

    boolean replace(int book, int key, int value) {
        LinkedHashMap<Integer, Integer> map = byHand(book);
        close(book, -1);
        return map.replace(key, value) != null;
    }

    int remove(int book, int key) {
        LinkedHashMap<Integer, Integer> map = byHand(book);
        refuseNone(!map.containsKey(key));
        close(book, -1);
        return map.remove(key);
    }

    boolean removePair(int book, int key, int value) {
        LinkedHashMap<Integer, Integer> map = byHand(book);
        close(book, -1);
        return map.remove((Object) key, (Object) value);
    }

    int fill(int book, int from, int step, int many) {
        LinkedHashMap<Integer, Integer> map = byHand(book);
        refuse(many < 0 || many > 60);
        refuseNow(book < 2 && map.size() > 140);
        for (int i = 0; i < many; i++) {
            put1(book, from + i * step, 0);
        }
        close(book, -1);
        return map.size();
    }

    int pour(int book, int other) {
        LinkedHashMap<Integer, Integer> map = any(book);
        LinkedHashMap<Integer, Integer> target = byHand(other);
        refuse(book == other);
        LinkedHashMap<Integer, Integer> both = new LinkedHashMap<>(target);
        both.putAll(map);
        refuseNow(other < 2 && both.size() > 200);
        map.forEach((key, value) -> put1(other, key, value));
        close(other, -1);
        return target.size();
    }

    int copy(int book, int other) {
        LinkedHashMap<Integer, Integer> map = any(book);
        LinkedHashMap<Integer, Integer> target = plain(other);
        refuse(book == other);
        target.clear();
        target.putAll(map);
        close(other, -1);
        return target.size();
    }

    int clear(int book) {
        LinkedHashMap<Integer, Integer> map = byHand(book);
        int had = map.size();
        map.clear();
        close(book, -1);
        return had;
    }

    boolean offer(int number) {
        LinkedHashMap<Integer, Integer> map = books.get(3);
        boolean isNew = !map.containsKey(number);
        refuseNow(isNew && map.size() == 200);
        map.merge(number, 1, (a, b) -> a + b);
        close(3, -1);
        return isNew;
    }

    int poll() {
        LinkedHashMap<Integer, Integer> map = books.get(3);
        refuseNone(map.isEmpty());
        int first = map.keySet().iterator().next();
        map.remove(first);
        close(3, -1);
        return first;
    }

    int toEnd(int number) {
        LinkedHashMap<Integer, Integer> map = books.get(3);
        refuseNone(!map.containsKey(number));
        int place = new ArrayList<>(map.keySet()).indexOf(number);
        map.put(number, map.remove(number));
        close(3, -1);
        return place;
    }

    private static void cursorInRange(int cursor) {
        if (cursor < 0 || cursor > 2) {
            throw new IndexOutOfBoundsException();
        }
    }

    int open(int cursor, int book, int kind) {
        cursorInRange(cursor);
        LinkedHashMap<Integer, Integer> map = any(book);
        refuse(kind < 0 || kind > 2);
        cursorBook[cursor] = book;
        cursorKind[cursor] = kind;
        iterators.set(cursor, map.entrySet().iterator());
        last.set(cursor, null);
        return map.size();
    }

    boolean hasNext(int cursor) {
        cursorInRange(cursor);
        refuseNow(cursorBook[cursor] == -1);
        return iterators.get(cursor).hasNext();
    }

    int next(int cursor) {
        refuseNone(!hasNext(cursor));
        Map.Entry<Integer, Integer> entry = iterators.get(cursor).next();
        last.set(cursor, entry);
        return cursorKind[cursor] == 1 ? entry.getValue() : entry.getKey();
    }

    int removeAt(int cursor) {
        cursorInRange(cursor);
        int book = cursorBook[cursor];
        refuseNow(book == -1 || book == 3 || last.get(cursor) == null);
        iterators.get(cursor).remove();
        last.set(cursor, null);
        close(book, cursor);
        return books.get(book).size();
    }

    int setAt(int cursor, int value) {
        cursorInRange(cursor);
        int book = cursorBook[cursor];
        refuse(book != -1 && cursorKind[cursor] != 2);
        refuseNow(book == -1 || book == 3 || last.get(cursor) == null);
        close(book, cursor);
        return last.get(cursor).setValue(value);
    }

    int bookOf(int cursor) {
        cursorInRange(cursor);
        return cursorBook[cursor];
    }

    int size(int book) {
        return any(book).size();
    }

    boolean hasKey(int book, int key) {
        return any(book).containsKey(key);
    }

    boolean hasValue(int book, int value) {
        return any(book).containsValue(value);
    }

    int get(int book, int key, int or) {
        return any(book).getOrDefault(key, or);
    }

    private Map.Entry<Integer, Integer> at(int book, int place) {
        return new ArrayList<>(any(book).entrySet()).get(placeInRange(book, place));
    }

    private int placeInRange(int book, int place) {
        if (place < 0 || place >= any(book).size()) {
            throw new IndexOutOfBoundsException();
        }
        return place;
    }

    int keyAt(int book, int place) {
        return at(book, place).getKey();
    }

    int valueAt(int book, int place) {
        return at(book, place).getValue();
    }

    int placeOf(int book, int key) {
        return new ArrayList<>(any(book).keySet()).indexOf(key);
    }

    boolean areEqual(int book, int other) {
        return any(book).equals(any(other));
    }

    boolean areAlike(int book, int other) {
        return new ArrayList<>(any(book).entrySet()).equals(new ArrayList<>(any(other).entrySet()));
    }

    int hash(int book) {
        return any(book).entrySet().hashCode();
    }

    long sum(int book) {
        long total = 0;
        long place = 1;
        for (Map.Entry<Integer, Integer> entry : any(book).entrySet()) {
            total += place * ((long) entry.getKey() + 3L * (long) entry.getValue());
            place++;
        }
        return total;
    }

    int write(int book) {
        output = any(book).toString();
        return output.length();
    }

    int outputAt(int index) {
        refuseNone(index < 0 || index >= output.length());
        return output.charAt(index);
    }

    boolean isAddRefused(int book, int kind) {
        any(book);
        refuse(kind < 0 || kind > 2);
        return true;
    }

    boolean isNothingRefused(int book, int key) {
        plain(book);
        return true;
    }

    double mean(int book) {
        if (any(book).isEmpty()) {
            return 0.0;
        }
        long total = any(book).values().stream().mapToLong(Integer::longValue).sum();
        return (double) total / (double) any(book).size();
    }

    float fullness() {
        return (float) books.get(2).size() / (float) bound;
    }

    int errors() {
        return 0;
    }
}
