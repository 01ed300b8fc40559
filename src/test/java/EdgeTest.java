/** Each sentence of the document that names a boundary, with answers on both sides of it. */
final class EdgeTest {
    public static void main(String[] args) {
        TermsEdges.run();
        TextEdges.run();
        AnswerEdges.run();
        ChangeEdges.run();
        Sentences.allSaid();
        Check.end("EdgeTest");
    }
}
