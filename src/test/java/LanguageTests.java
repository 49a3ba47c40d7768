import java.io.IOException;
import java.nio.file.Files;
import java.nio.file.Path;
import java.util.ArrayList;
import java.util.List;
import java.util.Set;
import java.util.TreeSet;
import java.util.regex.Matcher;
import java.util.regex.Pattern;

/** Looks through the program's text for what ../shared/LANGUAGE.md does not allow; run from the project's root. */
public final class LanguageTests {
    private static final Check CHECK = new Check("LanguageTests");

    public static void main(String[] args) throws IOException {
        String text = Files.readString(Path.of("src/main/java/HoopFair.java"));
        CHECK.due("all signs are ASCII", text.chars().allMatch(c -> c < 127), true);
        String code = withoutComments(text);
        checkImports(code);
        checkWords(code);
        checkThrows(code);
        checkLibrary(code);
        checkStatics(code);
        checkMethods(code);
        CHECK.end();
    }

    /** Comments go, and what stands in texts and signs; lines stay. */
    private static String withoutComments(String text) {
        String code = text.replaceAll("(?s)/\\*.*?\\*/", "").replaceAll("//[^\n]*", "");
        return code.replaceAll("\"[^\"\n]*\"", "\"\"").replaceAll("'[^'\n]'", "' '");
    }

    private static void none(String rule, String pattern, String code) {
        Matcher matcher = Pattern.compile(pattern).matcher(code);
        CHECK.due(rule, matcher.find() ? matcher.group() : "none", "none");
    }

    private static void checkImports(String code) {
        Set<String> imports = new TreeSet<>();
        Matcher matcher = Pattern.compile("(?m)^import ([^;]*);").matcher(code);
        while (matcher.find()) {
            imports.add(matcher.group(1));
        }
        CHECK.due("imports", imports, "[java.util.Arrays, java.util.NoSuchElementException]");
        none("no package", "(?m)^package", code);
    }

    private static void checkWords(String code) {
        none("no lambda", "->", code);
        none("no method reference", "::", code);
        none("no catch and its like", "\\b(try|catch|finally|synchronized|assert|var|record|instanceof|native|volatile|transient)\\b", code);
        none("no static block", "static \\{", code);
        none("no texts joined by +", "\"\"\\s*\\+|\\+\\s*\"\"", code);
        none("nothing Exact", "Exact", code);
        none("no class of Object", "\\b(equals|hashCode|toString|getClass)\\(", code);
        none("no loop without an end", "while \\(true\\)|for \\(;;\\)", code);
    }

    private static void checkThrows(String code) {
        Matcher matcher = Pattern.compile("\\bthrow\\b[^;]*;").matcher(code);
        Pattern allowed = Pattern.compile("throw new (IllegalStateException|IllegalArgumentException|IndexOutOfBoundsException"
                + "|UnsupportedOperationException|NoSuchElementException)\\((\"\")?\\);");
        while (matcher.find()) {
            CHECK.due(matcher.group(), allowed.matcher(matcher.group()).matches(), true);
        }
    }

    private static void checkLibrary(String code) {
        Matcher matcher = Pattern.compile("\\b(Arrays|Math|Integer|Long|System|String|StringBuilder)\\.(\\w+)").matcher(code);
        Set<String> allowed = Set.of("Arrays.fill", "Arrays.copyOf", "Math.max", "Math.min", "Math.abs", "Integer.signum",
                "Integer.bitCount", "System.arraycopy");
        while (matcher.find()) {
            CHECK.due(matcher.group() + " is allowed", allowed.contains(matcher.group()), true);
        }
    }

    private static void checkStatics(String code) {
        Matcher matcher = Pattern.compile("(?m)^ +(?:public |private )?static (?!final class|boolean is|int \\w+\\()[^;{]*[;{]").matcher(code);
        Pattern constant = Pattern.compile(" *(public|private) static final (int|long|boolean|char|String) [A-Z_]+ = [^;]*;");
        Pattern method = Pattern.compile(" *(private )?static (int|boolean) \\w+\\([^)]*\\) \\{");
        while (matcher.find()) {
            String found = matcher.group();
            CHECK.due(found + " is allowed", constant.matcher(found).matches() || method.matcher(found).matches(), true);
        }
    }

    private static void checkMethods(String code) {
        String[] lines = code.split("\n", -1);
        Pattern head = Pattern.compile("^( +)(?!return|else|if|for|while|switch)[\\w\\[\\] ]*\\b\\w+\\([^;]*\\{$");
        List<String> tooLong = new ArrayList<>();
        int methods = 0;
        for (int i = 0; i < lines.length; i++) {
            Matcher matcher = head.matcher(lines[i]);
            if (!matcher.matches() || lines[i].contains("} else")) {
                continue;
            }
            methods++;
            int end = i;
            while (end < lines.length && !lines[end].equals(matcher.group(1) + "}")) {
                end++;
            }
            if (end - i > 50) {
                tooLong.add(lines[i].trim());
            }
        }
        CHECK.due("methods are found", methods > 150, true);
        CHECK.due("methods that are too long", tooLong, "[]");
    }
}
