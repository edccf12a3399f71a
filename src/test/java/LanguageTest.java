import java.io.IOException;
import java.nio.file.Files;
import java.nio.file.Path;
import java.util.List;
import java.util.regex.Matcher;
import java.util.regex.Pattern;

/** What a look at the source can tell of ../shared/LANGUAGE.md; run from the project's folder. */
public final class LanguageTest {
    private static final Due DUE = new Due("LanguageTest");
    private static final List<String> NOT_THERE = List.of(
        "\\bimport\\b", "\\bpackage\\b", "->", "::", "\\bassert\\b", "\\bsynchronized\\b", "\\bcatch\\b", "\\bfinally\\b", "\\btry\\b",
        "\\bstatic \\{", "\\bSystem\\b", "\\bThread\\b", "\\bRandom\\b", "\\bMath\\.", "Exact\\(", "\\bprotected\\b", "\\bequals\\b", "\\bhashCode\\b", "\\btoString\\b");
    private static final int LONGEST = 60;

    public static void main(String[] args) throws IOException {
        List<String> lines = Files.readAllLines(Path.of("src/main/java/DrawStreams.java"));
        for (String line : lines) {
            String code = line.strip().startsWith("//") || line.strip().startsWith("*") || line.strip().startsWith("/*") ? "" : line;
            for (String word : NOT_THERE) {
                DUE.holds("no " + word + " in: " + line, !Pattern.compile(word).matcher(code).find());
            }
        }
        methodsAreShort(lines);
        exceptions(String.join("\n", lines));
        DUE.end();
    }

    private static void methodsAreShort(List<String> lines) {
        Pattern head = Pattern.compile("^( {4}| {8})[a-z].*\\) (throws \\w+ )?\\{$");
        for (int i = 0; i < lines.size(); i++) {
            Matcher m = head.matcher(lines.get(i));
            if (m.matches() && !lines.get(i).strip().matches("(if|for|while|switch|do|else)\\b.*")) {
                int end = i;
                while (!lines.get(end).equals(m.group(1) + "}")) {
                    end++;
                }
                DUE.holds("short: " + lines.get(i), end - i < LONGEST);
            }
        }
    }

    /** The only ones are those of the document, each with a written text. */
    private static void exceptions(String source) {
        Matcher m = Pattern.compile("throw new (\\w+)\\(\"[^\"]*\"\\);").matcher(source);
        int thrown = 0;
        while (m.find()) {
            thrown++;
            DUE.holds("the document names " + m.group(1), List.of("ArithmeticException", "ArrayIndexOutOfBoundsException").contains(m.group(1)));
        }
        DUE.is("throws in all", source.split("\\bthrow\\b", -1).length - 1, thrown);
        DUE.is("throws of the document", thrown, 2);
    }
}
