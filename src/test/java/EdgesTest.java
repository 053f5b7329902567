/** Every sentence of the document that names an edge, with a test of its own, and that none was left out. */
public final class EdgesTest {
    public static void main(String[] args) {
        Document.open();
        TermsEdges.run();
        ChangesEdges.run();
        TextEdges.run();
        QuestionsEdges.run();
        Due.endSentence();
        Document.checkAllQuoted();
        Due.end();
    }
}
