/** Each sentence of the document, with a test of its own. */
public final class BoundsTest {
    public static void main(String[] args) {
        TermBounds.run();
        TextBounds.run();
        AnswerBounds.run();
        ForecastBounds.run();
        ChangeBounds.run();
        PlainSentences.run();
        Document.finish();
        Check.finish();
    }
}
