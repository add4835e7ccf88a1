import java.io.IOException;
import java.nio.file.Files;
import java.nio.file.Path;
import java.util.regex.Matcher;
import java.util.regex.Pattern;

/** The rules of ../shared/LANGUAGE.md that the text of the class shows at once. */
public final class LanguageTest {
    private static final String[] FORBIDDEN = {
        "\\bthrow\\b", "\\btry\\b", "\\bcatch\\b", "\\bsynchronized\\b", "\\bassert\\b", "->", "::", "@", "\\bimport\\b",
        "\\bpackage\\b", "\\bprotected\\b", "Exact\\(", "\\bSystem\\.(?!arraycopy)", "\\bThread\\b", "\\bRandom\\b",
        "\\bObject\\b", "\\bequals\\(", "\\bhashCode\\b", "\\btoString\\b", "\\bvar\\b", "\\bstatic \\{", "\\bwhile \\(true\\)"};
    private static final int MOST_LINES = 60, MOST_CLASSES = 12;

    private LanguageTest() {
    }

    public static void main(String[] args) throws IOException {
        String source = Files.readString(Path.of("src/main/java/PancakePort.java"));
        String code = source.replaceAll("//[^\n]*", "").replaceAll("(?s)/\\*.*?\\*/", "");
        for (String word : FORBIDDEN) {
            Checks.same("LANGUAGE: how often " + word, occurrences(code, word), 0);
        }
        Checks.same("LANGUAGE: signs beyond 126", source.chars().filter(c -> c > 126).count(), 0);
        int classes = occurrences(code, "\\bclass \\w");
        Checks.same("LANGUAGE: too many classes", classes > MOST_CLASSES ? classes : 0, 0);
        Checks.same("LANGUAGE: classes inside that aren't private static",
            occurrences(code, "\\n    (?!private static )[\\w ]*\\bclass \\w"), 0);
        // All indexing stands in at, put, clear, copy, sum and tosserAt, each behind its test.
        Checks.same("LANGUAGE: indexed places", occurrences(code, "\\w\\[[a-z]\\w*\\]"), 7);
        methodsStayShort(code);
        Checks.end("LanguageTest");
    }

    private static void methodsStayShort(String code) {
        Matcher method = Pattern.compile("\\n( +)(?:[\\w\\[\\]]+ )+\\w+\\([^)]*\\) \\{\\n(.*?)\\n\\1\\}", Pattern.DOTALL).matcher(code);
        int methods = 0;
        while (method.find()) {
            methods++;
            long lines = method.group(2).lines().count();
            Checks.same("LANGUAGE: lines of a long method", lines > MOST_LINES ? lines : 0, 0);
        }
        Checks.same("LANGUAGE: methods are found", methods > 50 ? 1 : 0, 1);
    }

    private static int occurrences(String text, String word) {
        Matcher matcher = Pattern.compile(word).matcher(text);
        int found = 0;
        while (matcher.find()) {
            found++;
        }
        return found;
    }
}
