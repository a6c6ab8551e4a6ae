/** The document sentence by sentence: ordinary inputs, the ends of each range, refused calls. */
public final class SentencesTest {
    public static void main(String[] args) {
        OverviewSentences.all();
        FaceSentences.all();
        NumberSentences.all();
        OrdinaryMaps.all();
        MapSentences.all();
        OrdinaryCursors.all();
        CursorSentences.all();
        OrdinaryCaches.all();
        CacheSentences.all();
        ErrorsSentences.all();
        OrdinaryTexts.all();
        TextSentences.all();
        OrdinaryMachine.all();
        MachineSentences.all();
        RefusalSentences.all();
        Sentences.checkThatNoneIsMissing();
        Answers.end();
    }
}
