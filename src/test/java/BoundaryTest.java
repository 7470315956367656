/** The boundary cases of the document: each sentence that names one has a test of its own, which names the sentence. */
final class BoundaryTest {
    public static void main(String[] args) {
        BoundariesOfTerms.run();
        BoundariesOfChanges.run();
        BoundariesOfResults.run();
        BoundariesOfQuestions.run();
        BoundariesOfTexts.run();
        BoundariesOfUndo.run();
        BoundariesOfErrors.run();
        Sentence.checkAllTested();
        Check.finish();
    }
}
