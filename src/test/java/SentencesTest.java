/** Every sentence of the document has a test of its own. */
public final class SentencesTest {
    private SentencesTest() {
    }

    public static void main(String[] args) {
        Said said = new Said();
        new FirstSentences(said).ask();
        new TextSentences(said).ask();
        new StandSentences(said).ask();
        new ValueSentences(said).ask();
        new WaySentences(said).ask();
        new PromiseSentences(said).ask();
        new RefusedSentences(said).ask();
        said.finish();
    }
}
