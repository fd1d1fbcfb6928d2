/** Each sentence of the Terms and the promises, with a test of its own at the boundaries that it names. */
public final class SentencesTest {
    public static void main(String[] args) {
        BoardSentences.look();
        LawSentences.look();
        ThoughtSentences.look();
        TurnsSentences.look();
        DeedsSentences.look();
        ShelvesSentences.look();
        AnswersSentences.look();
        Sentence.end();
        Check.end("SentencesTest");
    }
}
