/** Every clause of the document, each with tests of its own on both sides of what it allows; none may be without one. */
final class BoundariesTest {
    public static void main(String[] args) {
        OpeningBoundaries.run();
        TextBoundaries.run();
        MoneyBoundaries.run();
        ErrorBoundaries.run();
        PromiseBoundaries.run();
        TellingBoundaries.run();
        TrialBoundaries.run();
        EditBoundaries.run();
        CloserBoundaries.run();
        Document.everyClauseIsTested();
        Check.end("BoundariesTest");
    }
}
