import java.io.IOException;

/** A test of its own for each sentence of the document that names a bound; with no sentence left out. */
public final class SentencesTest {
    private SentencesTest() {
    }

    public static void main(String[] args) throws IOException {
        Check check = new Check("SentencesTest");
        Sentences sentences = new Sentences();
        TermSentences.tell(sentences);
        DuelTermSentences.tell(sentences);
        ExceptionSentences.tell(sentences);
        DraftSentences.tell(sentences);
        PaperSentences.tell(sentences);
        DuelSentences.tell(sentences);
        QuestionSentences.tell(sentences);
        sentences.runAll(check);
        sentences.heldAgainstTheDocument(check);
        check.end();
    }
}
