/** All promises, sentence by sentence: the least, the most, empty, full, wrapped and refused. */
public final class SentencesTest {
    public static void main(String[] args) {
        NumberSentences.all();
        MapSentences.all();
        CursorSentences.all();
        CacheSentences.all();
        TextSentences.all();
        MachineSentences.all();
        RefusalSentences.all();
        Sentences.checkThatNoneIsMissing();
        Answers.end();
    }
}
