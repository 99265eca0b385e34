/** Each sentence of the document has a test of its own, and this program fails if one has none. */
public final class BoundaryTest {
    private static final int LAST_PROMISE = 27;

    public static void main(String[] args) {
        Check check = new Check("BoundaryTest");
        new TermsBoundaries(check).run();
        new WheelBoundaries(check).run();
        new MarketBoundaries(check).run();
        new DayBoundaries(check).run();
        new TextBoundaries(check).run();
        new StateBoundaries(check).run();
        check.leavesNoSentenceOf("What it is");
        check.leavesNoSentenceOf("Terms");
        for (int promise = 1; promise <= LAST_PROMISE; promise++) {
            check.leavesNoSentenceOf("Promise " + promise);
        }
        check.end();
    }
}
