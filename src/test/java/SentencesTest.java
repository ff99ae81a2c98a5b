import java.io.IOException;

/** Each sentence of the document has a run of its own, at its edges and beyond them, and a refused call changes nothing. */
public final class SentencesTest {
    public static void main(String[] args) throws IOException {
        Due due = new Due("sentences");
        Sentences sentences = new Sentences();
        ObjectSentences.all(sentences);
        SaveSentences.all(sentences);
        RestoreSentences.all(sentences);
        StateSentences.all(sentences);
        UseSentences.all(sentences);
        sentences.check(due);
        due.end();
    }
}
