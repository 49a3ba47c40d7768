import java.io.IOException;

/** The sentences of the document, each with a test of its own. */
public final class SentenceTests {
    public static void main(String[] args) throws IOException {
        Check check = new Check("SentenceTests");
        Sentences s = new Sentences(check);
        new TextSentences(s).run();
        new ThrowSentences(s).run();
        new PlanSentences(s).run();
        new CallSentences(s).run();
        new RestSentences(s).run();
        check.end();
    }
}
