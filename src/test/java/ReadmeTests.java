import java.io.IOException;
import java.nio.file.Files;
import java.nio.file.Path;
import java.util.regex.Matcher;
import java.util.regex.Pattern;

/** README.md says what the document says, and its example answers as it says; run from the project's root. */
public final class ReadmeTests {
    private static final Check CHECK = new Check("ReadmeTests");

    public static void main(String[] args) throws IOException {
        String readme = Files.readString(Path.of("README.md"));
        checkMethods(oneLine(readme));
        checkQuotes(readme);
        checkExample(readme);
        CHECK.due("it says by which command the tests are run", readme.contains("`sh .ci/run`"), true);
        CHECK.due("that command stands", Files.isExecutable(Path.of(".ci/run")), true);
        CHECK.end();
    }

    private static String oneLine(String text) {
        return text.replaceAll("\\s+", " ");
    }

    private static String document() throws IOException {
        return oneLine(Files.readString(Path.of("../shared/DOC.md")));
    }

    private static void checkMethods(String readme) throws IOException {
        Matcher promise = Pattern.compile("## Promise \\d+: [^`]*`([^`]*)`: (.*?) (?=## )").matcher(document());
        int found = 0;
        while (promise.find()) {
            String head = promise.group(1).replaceAll(" throws .*", "");
            boolean stands = readme.contains("- `" + head + "`: " + promise.group(2));
            CHECK.due(head + " stands there in the document's words", stands, true);
            found++;
        }
        CHECK.due("promises", found, 46);
    }

    /** What stands behind a > must stand in the document. */
    private static void checkQuotes(String readme) throws IOException {
        Matcher quote = Pattern.compile("(?m)(^> .*\n)+").matcher(readme);
        String document = document();
        int found = 0;
        while (quote.find()) {
            String text = oneLine(quote.group().replaceAll("(?m)^> ", "")).trim();
            CHECK.due("the document says: " + text, document.contains(text), true);
            found++;
        }
        CHECK.due("quotes", found > 10, true);
    }

    private static void checkExample(String readme) {
        HoopFair fair = new HoopFair();
        Example example = new Example(readme);
        example.due("feed(0x626c6f63, 0x6b203230, 0x20392073, 0x69646520, 0x32207072)",
                fair.feed(0x626c6f63, 0x6b203230, 0x20392073, 0x69646520, 0x32207072));
        example.due("feed(0x697a6520, 0x33303b68, 0x6f6f7020, 0x36206f76, 0x616c2030)",
                fair.feed(0x697a6520, 0x33303b68, 0x6f6f7020, 0x36206f76, 0x616c2030));
        example.due("feed(0x3b706572, 0x736f6e20, 0x35300000, 0, 0)", fair.feed(0x3b706572, 0x736f6e20, 0x35300000, 0, 0));
        example.due("end(50)", fair.end(50));
        example.due("fair()", fair.fair());
        example.due("how(0, 0, 20, 0, 0)", fair.how(0, 0, 20, 0, 0));
        example.due("how(0, 0, 20, 0, 2)", fair.how(0, 0, 20, 0, 2));
        example.due("toss(0, 0, 20, 0, 3)", fair.toss(0, 0, 20, 0, 3));
        example.due("toss(0, 0, 22, 0, 3)", fair.toss(0, 0, 22, 0, 3));
        example.due("toss(0, 0, 40, 0, 3)", fair.toss(0, 0, 40, 0, 3));
        example.due("count(6)", fair.count(6));
        example.due("undo()", fair.undo());
        example.due("count(7)", fair.count(7));
        example.dueEnd();
    }

    /** The calls of the example, one behind another, each with the answer that it tells. */
    private static final class Example {
        private final Matcher rows;

        Example(String readme) {
            rows = Pattern.compile("(?m)^fair\\.(.*); +// ([-\\w]+)").matcher(readme);
        }

        void due(String call, Object got) {
            boolean found = rows.find();
            CHECK.due("the example goes on with", found ? rows.group(1) : "nothing", call);
            CHECK.due("the example's " + call, got, found ? rows.group(2) : "nothing");
        }

        void dueEnd() {
            CHECK.due("the example goes on", rows.find(), false);
        }
    }
}
