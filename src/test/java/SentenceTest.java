/** All promises, sentence by sentence: the bounds that each one names, full and empty desks, and refused calls. */
final class SentenceTest extends Bounds {
    public static void main(String[] args) {
        SchoolBounds.run();
        AbsenceBounds.run();
        CoverBounds.run();
        PlanBounds.run();
        TextBounds.run();
        HistoryBounds.run();
        everySentenceIsChecked();
        finish();
    }
}
