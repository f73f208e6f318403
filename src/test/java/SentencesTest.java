/** Each sentence of the document has a test of its own, and no sentence is left out. */
public final class SentencesTest {
    private static final String[] TERMS = {"Terms", "Members", "Document", "Ballots", "Comments", "Appeals", "Texts",
        "Changes and errors"};
    private static final int PROMISES = 26;

    public static void main(String[] args) {
        TermsOfBallots.test();
        TermsOfComments.test();
        TermsOfTexts.test();
        DocumentSentences.test();
        BallotSentences.test();
        CommentSentences.test();
        EditionSentences.test();
        TextSentences.test();
        for (String section : TERMS) {
            Sentence.endSection(section);
        }
        for (int promise = 1; promise <= PROMISES; promise++) {
            Sentence.endSection("Promise " + promise);
        }
        Check.end("SentencesTest");
    }
}
