/** What the promises 15 to 17 say of edges, sentence by sentence; "Throws ..": see Refusals. */
final class QueueBoundaries {
    private static final int MIN = Integer.MIN_VALUE;
    private static final int MAX = Integer.MAX_VALUE;

    private QueueBoundaries() {
    }

    static void check() {
        offer();
        poll();
        toEnd();
    }

    private static void offer() {
        Document.section("Promise 15");
        Document.says("if it is not in it, it comes at the end");
        new Run().due("offer(7)", true).duePairs(3, "7=1").due("offer(-7)", true)
                .duePairs(3, "7=1 -7=1");
        new Run().offered(199).due("offer(-1)", true).dueEnds(3, 200, "0=1", "-1=1").made("poll()")
                .due("offer(0)", true).dueEnds(3, 200, "1=1", "0=1");
        Document.says("otherwise it stays where it is, and is offered once more");
        new Run().offered(200).due("offer(0)", false).due("offer(0)", false)
                .due("offer(199)", false).dueEnds(3, 200, "0=3", "199=2");
        Run often = Run.with("offer(5)", "offer(6)");
        for (int times = 2; times <= 200; times++) {
            often.due("offer(5)", false);
        }
        often.duePairs(3, "5=200 6=1").made("poll()").due("offer(5)", true).duePairs(3, "6=1 5=1");
        Document.says("`number`: the number");
        Run numbers = new Run();
        for (String number : Edges.INTS) {
            numbers.due("offer(" + number + ")", true).due("offer(" + number + ")", false);
        }
        numbers.duePairs(3, "MIN=2 -1=2 0=2 1=2 MAX=2");
        Document.says("Returns whether it came");
        new Run().due("offer(0)", true).due("offer(0)", false).made("poll()").due("offer(0)", true)
                .made("toEnd(0)").due("offer(0)", false);
    }

    private static void poll() {
        Document.section("Promise 16");
        Document.says("Takes the first number out of the queue");
        Run x = new Run().offered(200);
        for (int number = 0; number < 199; number++) {
            x.due("poll()", number);
        }
        x.duePairs(3, "199=1").due("poll()", 199).due("size(3)", 0);
        x.due("put(0, 0, 0)", false).due("size(3)", 0);
        Document.says("Returns the number");
        Run.with("offer(MIN)", "offer(MAX)", "offer(0)", "offer(MIN)", "toEnd(MAX)")
                .due("poll()", MIN).due("poll()", 0).due("poll()", MAX);
    }

    private static void toEnd() {
        Document.section("Promise 17");
        Document.says("Moves a number to the end of the queue");
        Run.with("offer(5)").due("toEnd(5)", 0).duePairs(3, "5=1");
        new Run().offered(200).due("toEnd(0)", 0).dueEnds(3, 200, "1=1", "0=1")
                .due("toEnd(0)", 199).dueEnds(3, 200, "1=1", "0=1").due("toEnd(199)", 198)
                .dueEnds(3, 200, "1=1", "199=1").due("errors()", 0);
        Document.says("how often it was offered stays");
        Run.with("offer(5)", "offer(5)", "offer(5)", "offer(6)").due("toEnd(5)", 0)
                .duePairs(3, "6=1 5=3").due("toEnd(5)", 1).duePairs(3, "6=1 5=3")
                .due("offer(5)", false).duePairs(3, "6=1 5=4");
        Document.says("`number`: the number");
        Run numbers = Run.with(Calls.each(Edges.INTS, "offer(#)"));
        for (String number : Edges.INTS) {
            numbers.due("toEnd(" + number + ")", 0);
        }
        numbers.duePairs(3, "MIN=1 -1=1 0=1 1=1 MAX=1");
        Document.says("Returns its place from the front, from 0, ahead of the call");
        Run.with("offer(8)", "offer(7)", "offer(6)").due("toEnd(8)", 0).due("toEnd(6)", 1)
                .due("toEnd(6)", 2).due("toEnd(7)", 0).due("placeOf(3, 7)", 2);
    }
}
