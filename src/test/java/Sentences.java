import java.io.IOException;
import java.nio.file.Files;
import java.nio.file.Path;

/** Sentences of the document, and what is due by each; run from the project's root. */
final class Sentences {
    static final String INDEX = "throws.IndexOutOfBoundsException";
    static final String ARGUMENT = "throws.IllegalArgumentException";
    static final String STATE = "throws.IllegalStateException";
    static final String ELEMENT = "throws.NoSuchElementException";
    static final String UNSUPPORTED = "throws.UnsupportedOperationException";

    private final Check check;
    private final String document;
    private String sentence = "";
    private int nth = 0;

    Sentences(Check check) throws IOException {
        this.check = check;
        document = Files.readString(Path.of("../shared/DOC.md")).replaceAll("\\s+", " ");
    }

    /** The sentence that the next answers are due by: it must stand in the document, word by word. */
    void says(String sentence) {
        this.sentence = sentence;
        nth = 0;
        check.due("the document says: " + sentence, document.contains(sentence), true);
    }

    /** A call's answer; of an exception its name. */
    void due(Check.Call call, Object want) {
        nth++;
        check.dueCall("'" + sentence + "', " + nth, call, want);
    }

    void due(Object got, Object want) {
        nth++;
        check.due("'" + sentence + "', " + nth, got, want);
    }

    // ---- texts; a bar stands ahead of their first wrong byte

    private static String plain(String text) {
        return text.replace("|", "");
    }

    private void dueText(String text, Object answer, Object want, HoopFair f) {
        check.due("'" + sentence + "', text " + text, answer, want);
        check.due("'" + sentence + "', fault of " + text, f.fault(), text.indexOf('|'));
    }

    /** A right text of THE FAIR, as the first one. */
    HoopFair fair(String text) {
        HoopFair f = new HoopFair();
        dueText(text, Texts.fair(f, text), 1, f);
        return f;
    }

    void wrongFair(HoopFair f, String text) {
        dueText(text, Texts.fair(f, plain(text)), ARGUMENT, f);
    }

    void wrongFair(String text) {
        wrongFair(new HoopFair(), text);
    }

    void law(HoopFair f, String text, int lines) {
        dueText(text, Texts.law(f, text), lines, f);
    }

    void law(String text, int lines) {
        law(new HoopFair(), text, lines);
    }

    void wrongLaw(HoopFair f, String text) {
        dueText(text, Texts.law(f, plain(text)), ARGUMENT, f);
    }

    void wrongLaw(String text) {
        wrongLaw(new HoopFair(), text);
    }

    static String lines(String line, int many) {
        return (line + ";").repeat(many).substring(0, (line.length() + 1) * many - 1);
    }

    /** Told by its letters, so that bytes above 127 and numbers can be put, too. */
    static void tape(HoopFair f, int... bytes) {
        byte[] tape = new byte[bytes.length];
        for (int i = 0; i < bytes.length; i++) {
            tape[i] = (byte) bytes[i];
        }
        Texts.tape(f, tape);
    }
}
