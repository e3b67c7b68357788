import java.io.IOException;
import java.nio.file.Files;
import java.nio.file.Path;
import java.util.Arrays;
import java.util.List;
import java.util.regex.Matcher;
import java.util.regex.Pattern;

/** What of LANGUAGE.md can be read from the text of the class; run in the project's folder. */
public final class LanguageTest {
    private static final String[] REFUSED = {
        "->", "::", "\\btry\\b", "\\bcatch\\b", "\\bfinally\\b", "\\bsynchronized\\b", "\\bassert\\b", "Exact\\(",
        "\\bequals\\(", "\\bhashCode\\(", "\\btoString\\(", "\\bDouble\\b", "\\bFloat\\b", "\\bprotected\\b",
        "\\bvar\\b", "\\brecord\\b", "@", "\\bObject\\b", "\\bLong\\.", "\\bSystem\\.", "\\bvolatile\\b", "\\bstatic \\{",
        "\\bstatic (?!final|int|long|boolean|class|abstract)", "while \\(", "\"",
    };
    private static final List<String> IMPORTS = Arrays.asList("import java.util.ArrayList;",
            "import java.util.Arrays;", "import java.util.NoSuchElementException;");

    public static void main(String[] args) throws IOException {
        Check check = new Check();
        String whole = Files.readString(Path.of("src/main/java/Triplegarth.java"));
        String code = whole.replaceAll("(?s)/\\*.*?\\*/", "").replaceAll("//[^\n]*", "");
        for (String refused : REFUSED) {
            Matcher matcher = Pattern.compile(refused).matcher(code);
            boolean isFound = matcher.find();
            check.due("no " + refused + (isFound ? " at " + matcher.start() : ""), false, () -> isFound);
        }
        for (String line : code.split("\n")) {
            check.due("import: " + line, true, () -> !line.startsWith("import") || IMPORTS.contains(line));
            check.due("at most 120 signs: " + line, true, () -> line.length() <= 120);
        }
        check.due("signs 1 to 127", true, () -> whole.chars().allMatch(sign -> sign >= 1 && sign <= 127));
        methods(check, code.split("\n"));
        exceptions(check, code);
        check.finish("LanguageTest");
    }

    /** Each throw makes one of the exceptions that the document names, and without a text. */
    private static void exceptions(Check check, String code) {
        Matcher thrown = Pattern.compile("\\bthrow\\b([^;]*);").matcher(code);
        String right = " new (IllegalState|IllegalArgument|IndexOutOfBounds|NoSuchElement|Arithmetic)Exception\\(\\)";
        while (thrown.find()) {
            String what = thrown.group(1);
            check.due("throw" + what, true, () -> what.matches(right));
        }
    }

    /** A method begins where a line of the depth of its class opens a brace, and ends with the brace below it. */
    private static void methods(Check check, String[] lines) {
        Pattern head = Pattern.compile("^( {4}| {8})(\\S.*)?\\)( throws [^{]*)? \\{$|^( {4}| {8}) {8}throws .*\\{$");
        int begun = -1;
        String indent = "";
        for (int i = 0; i < lines.length; i++) {
            Matcher matcher = head.matcher(lines[i]);
            if (begun < 0 && matcher.matches()) {
                begun = i;
                indent = matcher.group(1) != null ? matcher.group(1) : matcher.group(4);
            } else if (begun >= 0 && lines[i].equals(indent + "}")) {
                int length = i - begun + 1;
                check.due("some sixty lines: " + lines[begun].trim(), true, () -> length <= 60);
                begun = -1;
            }
        }
    }
}
