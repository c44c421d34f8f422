import java.io.IOException;
import java.nio.file.Files;
import java.nio.file.Path;
import java.util.regex.Matcher;
import java.util.regex.Pattern;

/** Some rules of LANGUAGE.md that can be seen in the text of the program; the work folder is the project's. */
public final class RulesTest {
    private static final String[] FORBIDDEN = {"\\bimport\\b", "\\bpackage\\b", "\\btry\\b", "\\bcatch\\b", "\\bfinally\\b",
        "->", "::", "\\bsynchronized\\b", "\\bassert\\b", "\\bstatic\\s*\\{", "\\binstanceof\\b", "\\+\\s*\"", "\"\\s*\\+",
        "Exact\\b", "\\bSystem\\b", "\\bhashCode\\b", "\\btoString\\b", "\\bfloat\\b", "\\bObject\\b",
        "\\bprotected\\b"};

    public static void main(String[] args) throws IOException {
        String source = Files.readString(Path.of("src/main/java/SlabDunes.java"));
        String code = source.replaceAll("(?s)/\\*.*?\\*/", "").replaceAll("//[^\n]*", "");
        forbidden(code);
        Check.that("signs 1 to 127 alone", source.chars().allMatch(sign -> sign < 128));
        indexesAreTested(code);
        exceptions(code);
        methodLengths(code);
        Check.end("RulesTest");
    }

    private static void forbidden(String code) {
        for (String pattern : FORBIDDEN) {
            Check.that("the program holds no " + pattern, !Pattern.compile(pattern).matcher(code).find());
        }
    }

    /** An element of an array is used only in a line that tests the index, or right below one. */
    private static void indexesAreTested(String code) {
        String[] lines = code.split("\n");
        Pattern element = Pattern.compile("(?<!new )\\b\\w+\\[([^\\]]+)\\]");
        int found = 0;
        for (int k = 1; k < lines.length; k++) {
            Matcher use = element.matcher(lines[k].replaceAll("new \\w+\\[[^;]*\\]", ""));
            while (use.find()) {
                found++;
                String near = lines[k - 1] + lines[k];
                Check.that("the index is tested: " + lines[k].trim(), near.contains(use.group(1) + " < "));
            }
        }
        Check.that("arrays are used", found > 0);
    }

    private static void exceptions(String code) {
        Matcher thrown = Pattern.compile("\\bthrow\\b([^;]*);").matcher(code);
        int found = 0;
        while (thrown.find()) {
            found++;
            Check.that("a written text: " + thrown.group(), thrown.group(1).matches(
                "\\s*new (IllegalArgumentException|IndexOutOfBoundsException|IllegalStateException)\\(\"[^\"]*\"\\)"));
        }
        Check.that("exceptions are thrown", found > 0);
    }

    private static void methodLengths(String code) {
        int begin = 0;
        String[] lines = code.split("\n");
        for (int k = 0; k < lines.length; k++) {
            if (lines[k].matches("    (    )?\\w.*\\) ?(throws .*)?\\{") && !lines[k].contains("class ")) {
                begin = k;
            }
            if (lines[k].matches("    (    )?\\}")) {
                Check.that("some sixty lines: " + lines[begin].trim(), k - begin <= 60 || lines[begin].contains("class"));
            }
        }
    }
}
