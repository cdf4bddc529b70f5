/** Every sentence of the document that names a bound, each with a test of its own that names it. */
public final class BoundsTest {
    private BoundsTest() {
    }

    public static void main(String[] args) throws Exception {
        Sentences.open();
        TextBounds.run();
        TermBounds.run();
        DeedBounds.run();
        CallBounds.run();
        AskBounds.run();
        Sentences.allSaid();
        Check.end();
    }
}
