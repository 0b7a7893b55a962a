import java.io.IOException;

/** Every sentence of the document's terms and promises, one by one. */
public final class SentencesTest {
    public static void main(String[] args) throws IOException {
        Sentences s = new Sentences();
        RingSentences.tell(s);
        ClothSentences.tell(s);
        FormSentences.tell(s);
        FigureSentences.tell(s);
        SlipSentences.tell(s);
        OrderSentences.tell(s);
        ActSentences.tell(s);
        AnswersSentences.tell(s);
        s.allAreNamed();
        System.out.println(s.count() + " sentences");
        Check.finish("SentencesTest");
    }
}
