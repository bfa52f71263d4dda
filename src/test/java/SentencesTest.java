/** Each sentence of the document that names a bound or a case of its own, one by one, and that none is left out. */
public final class SentencesTest {
    public static void main(String[] args) {
        ToldSentences.tests();
        ActSentences.tests();
        WaySentences.tests();
        SearchSentences.tests();
        RuleSentences.tests();
        Sentences.lookAtDocument();
        Kit.finish("SentencesTest");
    }
}
