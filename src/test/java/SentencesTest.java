/** Each sentence of the document in its order, from its first line to its last. */
public final class SentencesTest extends Sentences {
    public static void main(String[] args) {
        TermsSentences.all();
        RowsSentences.all();
        DeedsSentences.all();
        HeightsSentences.all();
        ToldSentences.all();
        endOfDocument();
    }
}
