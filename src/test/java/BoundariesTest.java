/**
 * The edges that the document names: each of its sentences, in the tests under its own words, and
 * each of its rows "Throws ..". Behind them all no sentence may be left that was not said.
 */
public final class BoundariesTest {
    public static void main(String[] args) {
        TermsBoundaries.check();
        BooksBoundaries.check();
        QueueBoundaries.check();
        CursorsBoundaries.check();
        QuestionsBoundaries.check();
        Refusals.check();
        Document.everySentenceWasSaid();
        Expect.finish("BoundariesTest");
    }
}
