/** Each sentence of the document, with a test of its own. */
public final class SentencesTest {
    public static void main(String[] args) {
        TermsSentences.run();
        TextSentences.run();
        StandSentences.run();
        HeightSentences.run();
        ForesightSentences.run();
        ActSentences.run();
        KeepSentences.run();
        Doc.dueWhole("What it is", "Terms");
        for (int promise = 1; promise <= 46; promise++) {
            Doc.dueWhole("Promise " + promise);
        }
        Check.end();
    }
}
