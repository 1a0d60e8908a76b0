import java.io.IOException;

/** Every sentence of the document's promises and terms, each by a test of its own. */
public final class SentencesTest {
    public static void main(String[] args) throws IOException {
        TapeSentences.tell();
        CourtSentences.tell();
        LawSentences.tell();
        WorkSentences.tell();
        StepSentences.tell();
        BookSentences.tell();
        FaultSentences.tell();
        ToldSentences.tell();
        AskedSentences.tell();
        AheadSentences.tell();
        RosterSentences.tell();
        GuessSentences.tell();
        ShareSentences.tell();
        CorridorSentences.tell();
        ReignSentences.tell();
        KeptSentences.tell();
        Sentences.checkDocument();
        Checks.finish();
    }
}
