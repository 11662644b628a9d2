import java.util.NoSuchElementException;

/** Promises 15 to 17: the queue without doubles. */
public final class QueueTest {
    public static void main(String[] args) {
        promise15Offer();
        promise15OfferToAFullQueue();
        promise16Poll();
        promise17ToEnd();
        Expect.finish("QueueTest");
    }

    private static void promise15Offer() {
        Arrivalbooks x = new Arrivalbooks();
        Expect.due("15 offer(5)", x.offer(5), true);
        Expect.due("15 offer(-6)", x.offer(-6), true);
        Expect.due("15 offer(5)", x.offer(5), false);
        Expect.due("15 offer(5)", x.offer(5), false);
        Expect.due("15 it stays where it is", Expect.pairs(x, 3), "5=3 -6=1");
        x.poll();
        Expect.due("15 offer(5) once it is out", x.offer(5), true);
        Expect.due("15 it is offered anew", Expect.pairs(x, 3), "-6=1 5=1");
        Expect.due("15 no other book", x.size(0) + x.size(1) + x.size(2), 0);
    }

    private static void promise15OfferToAFullQueue() {
        Arrivalbooks x = new Arrivalbooks();
        for (int number = 0; number < 199; number++) {
            x.offer(number);
        }
        Expect.due("15 offer of number 200", x.offer(199), true);
        Expect.dueThrow(x, "15 offer of one more", IllegalStateException.class,
                () -> x.offer(200));
        Expect.due("15 offer of one that is in it", x.offer(0), false);
        Expect.due("15 it is offered once more", x.valueAt(3, 0), 2);
        Expect.due("16 poll()", x.poll(), 0);
        Expect.due("15 offer behind a poll", x.offer(200), true);
        Expect.due("15 at the end", x.keyAt(3, 199), 200);
    }

    private static void promise16Poll() {
        Arrivalbooks x = new Arrivalbooks();
        Expect.dueThrow(x, "16 poll()", NoSuchElementException.class, x::poll);
        x.offer(7);
        x.offer(8);
        x.offer(7);
        Expect.due("16 poll()", x.poll(), 7);
        Expect.due("16 the rest", Expect.pairs(x, 3), "8=1");
        Expect.due("16 poll()", x.poll(), 8);
        Expect.dueThrow(x, "16 poll() behind the last", NoSuchElementException.class, x::poll);
    }

    private static void promise17ToEnd() {
        Arrivalbooks x = new Arrivalbooks();
        Expect.dueThrow(x, "17 toEnd(1)", NoSuchElementException.class, () -> x.toEnd(1));
        for (int number : new int[] {1, 2, 3, 2}) {
            x.offer(number);
        }
        Expect.due("17 toEnd(2)", x.toEnd(2), 1);
        Expect.due("17 how often it was offered stays", Expect.pairs(x, 3), "1=1 3=1 2=2");
        Expect.due("17 toEnd(2), the last one", x.toEnd(2), 2);
        Expect.due("17 nothing moves", Expect.pairs(x, 3), "1=1 3=1 2=2");
        Expect.due("17 toEnd(1), the first one", x.toEnd(1), 0);
        Expect.due("17 it is last", Expect.pairs(x, 3), "3=1 2=2 1=1");
        Expect.dueThrow(x, "17 toEnd(4)", NoSuchElementException.class, () -> x.toEnd(4));
        Expect.due("41 errors()", x.errors(), 0);
    }
}
