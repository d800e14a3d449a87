/** A test of its own for each sentence of the document that a call can show; each quotes its sentence. */
public final class LampCooperativeSentences extends SentenceTest {
    public static void main(String[] args) {
        LampSentences.test();
        OilSentences.test();
        MothSentences.test();
        NightSentences.test();
        VoteSentences.test();
        TextSentences.test();
        UndoSentences.test();
        check("the document", () -> DOCUMENT.unquoted().forEach(sentence -> tell("no test quotes " + sentence)));
        finish("all sentences hold");
    }
}
