/** Each sentence of the document in its own order: its bounds, on both sides, and what is refused. */
public final class BoundsTest {
    private BoundsTest() {
    }

    public static void main(String[] args) throws Exception {
        Sentences sentences = new Sentences();
        FrameBounds.ahead(sentences);
        TermsOneBounds.all(sentences);
        TermsTwoBounds.all(sentences);
        TermsThreeBounds.all(sentences);
        TermsFourBounds.all(sentences);
        PromisesOneBounds.all(sentences);
        PromisesTwoBounds.all(sentences);
        PromisesThreeBounds.all(sentences);
        FrameBounds.behind(sentences);
        sentences.end();
    }
}
