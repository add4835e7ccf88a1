import java.io.IOException;
import java.nio.file.Files;
import java.nio.file.Path;
import java.util.HashMap;
import java.util.Map;
import java.util.Set;
import java.util.TreeSet;
import java.util.regex.Matcher;
import java.util.regex.Pattern;

/** The rules of ../shared/LANGUAGE.md that the text of the class shows at once. */
public final class LanguageTest {
    private static final String[] FORBIDDEN = {
        "\\bthrow\\b", "\\btry\\b", "\\bcatch\\b", "\\bsynchronized\\b", "\\bassert\\b", "->", "::", "@", "\\bimport\\b",
        "\\bpackage\\b", "\\bprotected\\b", "Exact\\(", "\\bSystem\\.(?!arraycopy)", "\\bThread\\b", "\\bRandom\\b",
        "\\bObject\\b", "\\bequals\\(", "\\bhashCode\\b", "\\btoString\\b", "\\bvar\\b", "\\bstatic \\{", "\\bwhile \\(true\\)"};
    private static final int MOST_LINES = 60, MOST_CLASSES = 12, DEEPEST = 8, MOST_PARAMETERS = 7;

    private LanguageTest() {
    }

    public static void main(String[] args) throws IOException {
        String source = Files.readString(Path.of("src/main/java/PancakePort.java"));
        String code = source.replaceAll("//[^\n]*", "").replaceAll("(?s)/\\*.*?\\*/", "");
        for (String word : FORBIDDEN) {
            Checks.same("LANGUAGE: how often " + word, occurrences(code, word), 0);
        }
        Checks.same("LANGUAGE: signs beyond 126", source.chars().filter(c -> c > 126).count(), 0);
        int classes = occurrences(code, "\\bclass \\w");
        Checks.same("LANGUAGE: too many classes", classes > MOST_CLASSES ? classes : 0, 0);
        Checks.same("LANGUAGE: classes inside that aren't private static",
            occurrences(code, "\\n    (?!private static )[\\w ]*\\bclass \\w"), 0);
        // All indexing stands in at, put, clear, copy, sum and tosserAt, each behind its test.
        Checks.same("LANGUAGE: indexed places", occurrences(code, "\\w\\[[a-z]\\w*\\]"), 7);
        methodsStayShort(code);
        Checks.end("LanguageTest");
    }

    private static void methodsStayShort(String code) {
        Matcher method = Pattern.compile("\\n( +)(?:[\\w\\[\\]]+ )+(\\w+)\\(([^)]*)\\) \\{\\n(.*?)\\n\\1\\}", Pattern.DOTALL).matcher(code);
        Map<String, String> bodies = new HashMap<>();
        while (method.find()) {
            long lines = method.group(4).lines().count();
            Checks.same("LANGUAGE: lines of " + method.group(2), lines > MOST_LINES ? lines : 0, 0);
            int parameters = method.group(3).split(",").length;
            Checks.same("LANGUAGE: parameters of " + method.group(2), parameters > MOST_PARAMETERS ? parameters : 0, 0);
            bodies.merge(method.group(2), method.group(4), String::concat);
        }
        Checks.same("LANGUAGE: methods are found", bodies.size() > 50 ? 1 : 0, 1);
        for (String name : bodies.keySet()) {
            int depth = depth(name, bodies, new TreeSet<>());
            Checks.same("LANGUAGE: calls open at once, from " + name, depth > DEEPEST ? depth : 0, 0);
        }
    }

    /** By names alone: methods of one name are taken as one, and one that calls its own name as calling another once. */
    private static int depth(String name, Map<String, String> bodies, Set<String> open) {
        open.add(name);
        int deepest = 0;
        Matcher called = Pattern.compile("\\b(\\w+)\\(").matcher(bodies.get(name));
        while (called.find()) {
            if (open.contains(called.group(1))) {
                deepest = Math.max(deepest, 1);
            } else if (bodies.containsKey(called.group(1))) {
                deepest = Math.max(deepest, depth(called.group(1), bodies, open));
            }
        }
        open.remove(name);
        return deepest + 1;
    }

    private static int occurrences(String text, String word) {
        Matcher matcher = Pattern.compile(word).matcher(text);
        int found = 0;
        while (matcher.find()) {
            found++;
        }
        return found;
    }
}
