import java.util.NoSuchElementException;

/**
 * Books of arrivals: pairs that stay where they first came, a book with a bound that lets the
 * first pair go, copies, a queue without doubles, and cursors that go through books.
 */
public final class Arrivalbooks {
    public static final int NONE = -1;
    public static final int KEYS = 0, VALUES = 1, PAIRS = 2;

    private static final int BOOKS = 4;
    private static final int BOUNDED = 2;
    private static final int QUEUE = 3;
    private static final int CURSORS = 3;
    private static final int MOST_PAIRS = 200;
    private static final int FIRST_BOUND = 8;
    private static final int MOST_BOUND = 40;
    private static final int MOST_FILLED = 60;
    /** The longest pair, with what stands between two: "-2147483648=-2147483648, ". */
    private static final int MOST_SIGNS = 25 * MOST_PAIRS;

    private final Book firstPlain = new Book(MOST_PAIRS, false);
    private final Book secondPlain = new Book(MOST_PAIRS, false);
    private final Book bounded = new Book(FIRST_BOUND, true);
    private final Book queue = new Book(MOST_PAIRS, false);
    /** Made once, and used again by each errors(): all calls of a run share one room. */
    private final Book spare = new Book(MOST_PAIRS, false);
    private final Cursor firstCursor = new Cursor();
    private final Cursor secondCursor = new Cursor();
    private final Cursor thirdCursor = new Cursor();
    private final Output output = new Output();

    public Arrivalbooks() {
    }

    // ---- books

    public int rebind(int bound) throws IllegalArgumentException {
        if (bound < 1 || bound > MOST_BOUND) {
            throw new IllegalArgumentException("no such bound");
        }
        int had = bounded.count;
        bounded.empty();
        bounded.bound = bound;
        closeCursors(BOUNDED, NONE);
        return had;
    }

    public boolean put(int book, int key, int value)
            throws IndexOutOfBoundsException, IllegalArgumentException, IllegalStateException {
        Book target = bookChangedByHand(book);
        requireRoomForKey(target, key);
        closeCursors(book, NONE);
        return target.store(key, value);
    }

    public int putNew(int book, int key, int value)
            throws IndexOutOfBoundsException, IllegalArgumentException, IllegalStateException {
        Book target = plainBook(book);
        requireRoomForKey(target, key);
        closeCursors(book, NONE);
        int place = target.find(key);
        if (place == NONE) {
            target.enter(key, value);
            return value;
        }
        return target.valueOn(place);
    }

    public int add(int book, int key, int number)
            throws IndexOutOfBoundsException, IllegalArgumentException, IllegalStateException {
        Book target = plainBook(book);
        requireRoomForKey(target, key);
        closeCursors(book, NONE);
        int place = target.find(key);
        int value = place == NONE ? number : target.valueOn(place) + number;
        target.store(key, value);
        return value;
    }

    public boolean halve(int book, int key)
            throws IndexOutOfBoundsException, IllegalArgumentException {
        Book target = plainBook(book);
        closeCursors(book, NONE);
        int place = target.find(key);
        if (place == NONE) {
            return false;
        }
        int half = target.valueOn(place) / 2;
        if (half == 0) {
            target.leave(place);
            return false;
        }
        target.give(place, half);
        return true;
    }

    public int addToAll(int book, int number)
            throws IndexOutOfBoundsException, IllegalArgumentException {
        Book target = bookChangedByHand(book);
        closeCursors(book, NONE);
        for (int place = 0; place < target.count; place++) {
            target.give(place, target.valueOn(place) + number);
        }
        return target.count;
    }

    public boolean replace(int book, int key, int value)
            throws IndexOutOfBoundsException, IllegalArgumentException {
        Book target = bookChangedByHand(book);
        closeCursors(book, NONE);
        int place = target.find(key);
        if (place == NONE) {
            return false;
        }
        target.give(place, value);
        return true;
    }

    public int remove(int book, int key)
            throws IndexOutOfBoundsException, IllegalArgumentException, NoSuchElementException {
        Book target = bookChangedByHand(book);
        int place = target.find(key);
        if (place == NONE) {
            throw new NoSuchElementException("no such key");
        }
        closeCursors(book, NONE);
        int value = target.valueOn(place);
        target.leave(place);
        return value;
    }

    public boolean removePair(int book, int key, int value)
            throws IndexOutOfBoundsException, IllegalArgumentException {
        Book target = bookChangedByHand(book);
        closeCursors(book, NONE);
        int place = target.find(key);
        if (place == NONE || target.valueOn(place) != value) {
            return false;
        }
        target.leave(place);
        return true;
    }

    public int fill(int book, int from, int step, int many)
            throws IndexOutOfBoundsException, IllegalArgumentException, IllegalStateException {
        Book target = bookChangedByHand(book);
        if (many < 0 || many > MOST_FILLED) {
            throw new IllegalArgumentException("no such number of pairs to put");
        }
        // The document refuses by the most that a call may put, not by what this call puts.
        requireRoom(target, MOST_FILLED);
        closeCursors(book, NONE);
        int key = from;
        for (int done = 0; done < many; done++) {
            target.store(key, 0);
            key += step;
        }
        return target.count;
    }

    public int pour(int book, int other)
            throws IndexOutOfBoundsException, IllegalArgumentException, IllegalStateException {
        Book source = bookOfNumber(book);
        Book target = bookChangedByHand(other);
        requireTwoBooks(book, other);
        requireRoom(target, source.countMissingIn(target));
        closeCursors(other, NONE);
        target.storeAllOf(source);
        return target.count;
    }

    public int copy(int book, int other)
            throws IndexOutOfBoundsException, IllegalArgumentException {
        Book source = bookOfNumber(book);
        Book target = plainBook(other);
        requireTwoBooks(book, other);
        closeCursors(other, NONE);
        target.becomeCopyOf(source);
        return target.count;
    }

    public int clear(int book) throws IndexOutOfBoundsException, IllegalArgumentException {
        Book target = bookChangedByHand(book);
        closeCursors(book, NONE);
        int had = target.count;
        target.empty();
        return had;
    }

    // ---- the queue without doubles: the keys of the book 3, in their order; the value of a key
    // tells how often it was offered since it came, 1 as it comes

    public boolean offer(int number) throws IllegalStateException {
        requireRoomForKey(queue, number);
        closeCursors(QUEUE, NONE);
        int place = queue.find(number);
        queue.store(number, place == NONE ? 1 : queue.valueOn(place) + 1);
        return place == NONE;
    }

    public int poll() throws NoSuchElementException {
        if (queue.count == 0) {
            throw new NoSuchElementException("the queue is empty");
        }
        closeCursors(QUEUE, NONE);
        int number = queue.keyOn(0);
        queue.leave(0);
        return number;
    }

    public int toEnd(int number) throws NoSuchElementException {
        int place = queue.find(number);
        if (place == NONE) {
            throw new NoSuchElementException("not in the queue");
        }
        closeCursors(QUEUE, NONE);
        int offered = queue.valueOn(place);
        queue.leave(place);
        queue.enter(number, offered);
        return place;
    }

    // ---- cursors

    public int open(int cursor, int book, int kind)
            throws IndexOutOfBoundsException, IllegalArgumentException {
        Cursor opened = cursorOfNumber(cursor);
        Book through = bookOfNumber(book);
        requireKind(kind);
        opened.openAt(book, kind);
        return through.count;
    }

    public boolean hasNext(int cursor) throws IndexOutOfBoundsException, IllegalStateException {
        Cursor asked = openCursor(cursor);
        return asked.ahead < bookOfNumber(asked.book).count;
    }

    public int next(int cursor)
            throws IndexOutOfBoundsException, IllegalStateException, NoSuchElementException {
        Cursor going = openCursor(cursor);
        Book through = bookOfNumber(going.book);
        int place = going.ahead;
        if (place >= through.count) {
            throw new NoSuchElementException("no next one");
        }
        going.goOn();
        return going.kind == VALUES ? through.valueOn(place) : through.keyOn(place);
    }

    public int removeAt(int cursor) throws IndexOutOfBoundsException, IllegalStateException {
        Cursor standing = cursorOfNumber(cursor);
        requireChangeablePair(standing);
        Book target = bookOfNumber(standing.book);
        target.leave(standing.lastPlace());
        standing.stepBack();
        closeCursors(standing.book, cursor);
        return target.count;
    }

    public int setAt(int cursor, int value)
            throws IndexOutOfBoundsException, IllegalArgumentException, IllegalStateException {
        Cursor standing = cursorOfNumber(cursor);
        if (standing.book != NONE && standing.kind != PAIRS) {
            throw new IllegalArgumentException("not a cursor of pairs");
        }
        requireChangeablePair(standing);
        Book target = bookOfNumber(standing.book);
        int before = target.valueOn(standing.lastPlace());
        target.give(standing.lastPlace(), value);
        closeCursors(standing.book, cursor);
        return before;
    }

    public int bookOf(int cursor) throws IndexOutOfBoundsException {
        return cursorOfNumber(cursor).book;
    }

    // ---- questions

    public int size(int book) throws IndexOutOfBoundsException {
        return bookOfNumber(book).count;
    }

    public boolean hasKey(int book, int key) throws IndexOutOfBoundsException {
        return bookOfNumber(book).find(key) != NONE;
    }

    public boolean hasValue(int book, int value) throws IndexOutOfBoundsException {
        return bookOfNumber(book).holdsValue(value);
    }

    public int get(int book, int key, int or) throws IndexOutOfBoundsException {
        Book asked = bookOfNumber(book);
        int place = asked.find(key);
        return place == NONE ? or : asked.valueOn(place);
    }

    public int keyAt(int book, int place) throws IndexOutOfBoundsException {
        Book asked = bookOfNumber(book);
        requirePlace(asked, place);
        return asked.keyOn(place);
    }

    public int valueAt(int book, int place) throws IndexOutOfBoundsException {
        Book asked = bookOfNumber(book);
        requirePlace(asked, place);
        return asked.valueOn(place);
    }

    public int placeOf(int book, int key) throws IndexOutOfBoundsException {
        return bookOfNumber(book).find(key);
    }

    public boolean areEqual(int book, int other) throws IndexOutOfBoundsException {
        return bookOfNumber(book).hasPairsOf(bookOfNumber(other));
    }

    public boolean areAlike(int book, int other) throws IndexOutOfBoundsException {
        return bookOfNumber(book).hasRowOf(bookOfNumber(other));
    }

    public int hash(int book) throws IndexOutOfBoundsException {
        return bookOfNumber(book).mixed();
    }

    public long sum(int book) throws IndexOutOfBoundsException {
        Book asked = bookOfNumber(book);
        long total = 0L;
        for (int place = 0; place < asked.count; place++) {
            total += (place + 1L) * (asked.keyOn(place) + 3L * asked.valueOn(place));
        }
        return total;
    }

    public int write(int book) throws IndexOutOfBoundsException {
        Book written = bookOfNumber(book);
        output.startAnew();
        output.append('{');
        for (int place = 0; place < written.count; place++) {
            if (place > 0) {
                output.append(',');
                output.append(' ');
            }
            output.appendNumber(written.keyOn(place));
            output.append('=');
            output.appendNumber(written.valueOn(place));
        }
        output.append('}');
        return output.length;
    }

    public int outputAt(int index) throws NoSuchElementException {
        if (!output.reaches(index)) {
            throw new NoSuchElementException("no such character");
        }
        return output.signOn(index);
    }

    public boolean isAddRefused(int book, int kind)
            throws IndexOutOfBoundsException, IllegalArgumentException {
        bookOfNumber(book);
        requireKind(kind);
        return true;
    }

    public boolean isNothingRefused(int book, int key)
            throws IndexOutOfBoundsException, IllegalArgumentException {
        plainBook(book);
        return true;
    }

    public double mean(int book) throws IndexOutOfBoundsException {
        Book asked = bookOfNumber(book);
        if (asked.count == 0) {
            return 0.0;
        }
        long total = 0L;
        for (int place = 0; place < asked.count; place++) {
            total += asked.valueOn(place);
        }
        return (double) total / (double) asked.count;
    }

    public float fullness() {
        if (bounded.bound == 0) {
            return 0.0f;
        }
        return (float) bounded.count / (float) bounded.bound;
    }

    public int errors() {
        int wrong = 0;
        for (int book = 0; book < BOOKS; book++) {
            if (!isAsTheTheoremTells(bookOfNumber(book))) {
                wrong++;
            }
        }
        return wrong;
    }

    // ---- what the calls share

    private boolean isAsTheTheoremTells(Book book) {
        return book.arrivals.tellOf(book) && isCopyInOrder(book) && isEqualInOppositeOrder(book);
    }

    private boolean isCopyInOrder(Book book) {
        spare.becomeCopyOf(book);
        return spare.hasRowOf(book);
    }

    private boolean isEqualInOppositeOrder(Book book) {
        spare.empty();
        for (int place = book.count - 1; place >= 0; place--) {
            spare.enter(book.keyOn(place), book.valueOn(place));
        }
        return spare.hasPairsOf(book) && spare.mixed() == book.mixed();
    }

    private Book bookOfNumber(int book) throws IndexOutOfBoundsException {
        switch (book) {
            case 0:
                return firstPlain;
            case 1:
                return secondPlain;
            case BOUNDED:
                return bounded;
            case QUEUE:
                return queue;
            default:
                throw new IndexOutOfBoundsException("no such book");
        }
    }

    private Book bookChangedByHand(int book)
            throws IndexOutOfBoundsException, IllegalArgumentException {
        Book found = bookOfNumber(book);
        if (book == QUEUE) {
            throw new IllegalArgumentException("the book of the queue");
        }
        return found;
    }

    private Book plainBook(int book) throws IndexOutOfBoundsException, IllegalArgumentException {
        Book found = bookOfNumber(book);
        if (book == BOUNDED || book == QUEUE) {
            throw new IllegalArgumentException("not a plain book");
        }
        return found;
    }

    private void requireTwoBooks(int book, int other) throws IllegalArgumentException {
        if (book == other) {
            throw new IllegalArgumentException("both books are the same");
        }
    }

    private void requireRoomForKey(Book target, int key) throws IllegalStateException {
        requireRoom(target, target.find(key) == NONE ? 1 : 0);
    }

    private void requireRoom(Book target, int coming) throws IllegalStateException {
        if (!target.letsGo && target.count + coming > target.bound) {
            throw new IllegalStateException("the book is full");
        }
    }

    private void requirePlace(Book asked, int place) throws IndexOutOfBoundsException {
        if (!asked.reaches(place)) {
            throw new IndexOutOfBoundsException("no such place");
        }
    }

    private void requireKind(int kind) throws IllegalArgumentException {
        if (kind < KEYS || kind > PAIRS) {
            throw new IllegalArgumentException("no such kind");
        }
    }

    private Cursor cursorOfNumber(int cursor) throws IndexOutOfBoundsException {
        switch (cursor) {
            case 0:
                return firstCursor;
            case 1:
                return secondCursor;
            case 2:
                return thirdCursor;
            default:
                throw new IndexOutOfBoundsException("no such cursor");
        }
    }

    private Cursor openCursor(int cursor)
            throws IndexOutOfBoundsException, IllegalStateException {
        Cursor found = cursorOfNumber(cursor);
        if (found.book == NONE) {
            throw new IllegalStateException("the cursor is closed");
        }
        return found;
    }

    private void requireChangeablePair(Cursor standing) throws IllegalStateException {
        if (standing.book == NONE || standing.book == QUEUE || !standing.isOnPair) {
            throw new IllegalStateException("no pair that the cursor may change");
        }
    }

    /** Closes the cursors of a book but the one that is kept; NONE keeps no cursor. */
    private void closeCursors(int book, int kept) {
        for (int cursor = 0; cursor < CURSORS; cursor++) {
            Cursor found = cursorOfNumber(cursor);
            if (cursor != kept && found.book == book) {
                found.close();
            }
        }
    }

    /** Pairs in the order in which their keys came. */
    private static final class Book {
        private final int[] keys = new int[MOST_PAIRS];
        private final int[] values = new int[MOST_PAIRS];
        final Arrivals arrivals = new Arrivals();
        /** Whether it lets its first pair go behind its bound, where others refuse the new one. */
        final boolean letsGo;
        int bound;
        int count;

        Book(int bound, boolean letsGo) {
            this.bound = bound;
            this.letsGo = letsGo;
        }

        boolean reaches(int place) {
            return place >= 0 && place < count;
        }

        int find(int key) {
            for (int place = 0; place < count; place++) {
                if (keys[place] == key) {
                    return place;
                }
            }
            return NONE;
        }

        int keyOn(int place) {
            return reaches(place) ? keys[place] : 0;
        }

        int valueOn(int place) {
            return reaches(place) ? values[place] : 0;
        }

        boolean holdsValue(int value) {
            for (int place = 0; place < count; place++) {
                if (values[place] == value) {
                    return true;
                }
            }
            return false;
        }

        void give(int place, int value) {
            if (reaches(place)) {
                values[place] = value;
            }
        }

        /** For a key that is not there. */
        void enter(int key, int value) {
            if (count >= MOST_PAIRS) {
                return;
            }
            keys[count] = key;
            values[count] = value;
            count++;
            arrivals.cameIn(key);
            if (letsGo && count > bound) {
                leave(0);
            }
        }

        boolean store(int key, int value) {
            int place = find(key);
            if (place == NONE) {
                enter(key, value);
                return false;
            }
            give(place, value);
            return true;
        }

        void leave(int place) {
            if (!reaches(place)) {
                return;
            }
            arrivals.wentOut(keys[place]);
            for (int later = place + 1; later < count; later++) {
                keys[later - 1] = keys[later];
                values[later - 1] = values[later];
            }
            count--;
        }

        void empty() {
            arrivals.allWentOut();
            count = 0;
        }

        void storeAllOf(Book other) {
            for (int place = 0; place < other.count; place++) {
                store(other.keyOn(place), other.valueOn(place));
            }
        }

        void becomeCopyOf(Book other) {
            empty();
            for (int place = 0; place < other.count; place++) {
                enter(other.keyOn(place), other.valueOn(place));
            }
        }

        int countMissingIn(Book other) {
            int missing = 0;
            for (int place = 0; place < count; place++) {
                if (other.find(keys[place]) == NONE) {
                    missing++;
                }
            }
            return missing;
        }

        boolean hasPairsOf(Book other) {
            if (count != other.count) {
                return false;
            }
            for (int place = 0; place < count; place++) {
                int there = other.find(keys[place]);
                if (there == NONE || other.valueOn(there) != values[place]) {
                    return false;
                }
            }
            return true;
        }

        boolean hasRowOf(Book other) {
            if (count != other.count) {
                return false;
            }
            for (int place = 0; place < count; place++) {
                if (keys[place] != other.keyOn(place) || values[place] != other.valueOn(place)) {
                    return false;
                }
            }
            return true;
        }

        int mixed() {
            int total = 0;
            for (int place = 0; place < count; place++) {
                total += keys[place] ^ values[place];
            }
            return total;
        }
    }

    /**
     * A record of arrivals and removals that does not lean on the order of a book: each key that
     * is in it bears the time at which it came, and may stand anywhere.
     */
    private static final class Arrivals {
        private final int[] keys = new int[MOST_PAIRS];
        private final int[] times = new int[MOST_PAIRS];
        private int count;
        private int now;

        void cameIn(int key) {
            if (count >= MOST_PAIRS) {
                return;
            }
            keys[count] = key;
            times[count] = now;
            count++;
            now++;
        }

        void wentOut(int key) {
            int index = indexOfKey(key);
            if (index == NONE) {
                return;
            }
            count--;
            keys[index] = keys[count];
            times[index] = times[count];
        }

        void allWentOut() {
            count = 0;
        }

        boolean tellOf(Book book) {
            if (book.count != count) {
                return false;
            }
            int before = NONE;
            for (int place = 0; place < book.count; place++) {
                int index = indexOfKey(book.keyOn(place));
                if (index == NONE || times[index] <= before) {
                    return false;
                }
                before = times[index];
            }
            return true;
        }

        private int indexOfKey(int key) {
            for (int index = 0; index < count; index++) {
                if (keys[index] == key) {
                    return index;
                }
            }
            return NONE;
        }
    }

    /** Closed while it has no book. */
    private static final class Cursor {
        int book = NONE;
        int kind = KEYS;
        int ahead;
        boolean isOnPair;

        void openAt(int opened, int ofKind) {
            book = opened;
            kind = ofKind;
            ahead = 0;
            isOnPair = false;
        }

        void close() {
            book = NONE;
            isOnPair = false;
        }

        int lastPlace() {
            return ahead - 1;
        }

        void goOn() {
            ahead++;
            isOnPair = true;
        }

        /** Its last pair is gone, and all later ones have moved one place to the front. */
        void stepBack() {
            ahead--;
            isOnPair = false;
        }
    }

    private static final class Output {
        private final char[] signs = new char[MOST_SIGNS];
        int length;

        boolean reaches(int index) {
            return index >= 0 && index < length;
        }

        int signOn(int index) {
            return reaches(index) ? signs[index] : NONE;
        }

        void startAnew() {
            length = 0;
        }

        void append(char sign) {
            if (length < MOST_SIGNS) {
                signs[length] = sign;
                length++;
            }
        }

        void appendNumber(int number) {
            // A long, for the least int has no opposite among the ints.
            long rest = Math.abs((long) number);
            if (number < 0) {
                append('-');
            }
            for (long unit = 1000000000L; unit > 0; unit /= 10) {
                if (unit <= rest || unit == 1) {
                    append((char) ('0' + rest / unit % 10));
                }
            }
        }
    }
}
