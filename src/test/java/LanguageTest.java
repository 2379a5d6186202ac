import java.io.IOException;
import java.nio.file.Files;
import java.nio.file.Path;
import java.util.List;
import java.util.Set;
import java.util.TreeSet;
import java.util.regex.Matcher;
import java.util.regex.Pattern;

/** What of LANGUAGE.md can be seen in the program's text: words that it leaves out, long methods. */
public final class LanguageTest {
    private static final Due D = new Due();
    private static final Set<String> LIBRARY = Set.of("Integer.bitCount", "Integer.numberOfTrailingZeros",
        "Math.min", "Math.max", "Arrays.fill", "System.arraycopy");
    private static final String[] LEFT_OUT = {"throw", "throws", "try", "catch", "finally", "synchronized",
        "assert", "volatile", "transient", "native", "strictfp", "protected", "package", "var", "Object",
        "Exception", "Thread", "Random", "hashCode", "toString", "equals", "->", "::"};

    public static void main(String[] args) throws IOException {
        String text = Files.readString(Path.of("src/main/java/WalkTeller.java"));
        String code = text.replaceAll("(?s)/\\*.*?\\*/", "").replaceAll("//[^\n]*", "")
            .replaceAll("\"[^\"\n]*\"", "\"\"");
        for (String word : LEFT_OUT) {
            String edge = Character.isLetter(word.charAt(0)) ? "\\b" : "";
            D.due("the word " + word, count(code, edge + Pattern.quote(word) + edge), 0);
        }
        imports(code);
        library(code);
        joinedTexts(code);
        methods(text);
        D.end();
    }

    private static int count(String code, String pattern) {
        return (int) Pattern.compile(pattern).matcher(code).results().count();
    }

    private static void imports(String code) {
        D.due("imports", count(code, "import "), 1);
        D.due("import of Arrays", count(code, "import java\\.util\\.Arrays;"), 1);
    }

    private static void library(String code) {
        Set<String> used = new TreeSet<>();
        Matcher matcher = Pattern.compile("\\b(Integer|Long|Math|Arrays|System|String)\\.\\w+").matcher(code);
        while (matcher.find()) {
            used.add(matcher.group());
        }
        used.removeAll(LIBRARY);
        D.due("of the library beyond the list: " + used, used.size(), 0);
    }

    private static void joinedTexts(String code) {
        D.due("texts joined by +", count(code, "\"\" *\\+|\\+ *\"\""), 0);
        D.due("signs above 127", count(code, "[^\\x00-\\x7f]"), 0);
    }

    private static void methods(String text) {
        List<String> lines = text.lines().toList();
        int begun = -1;
        for (int n = 0; n < lines.size(); n++) {
            String line = lines.get(n);
            if (line.matches(" {4}( {4})?[\\w\\[\\]<> ]+\\(.*\\) \\{")) {
                begun = n;
            } else if (begun >= 0 && line.matches(" {4}( {4})?\\}")) {
                D.due("lines of " + lines.get(begun).trim(), n - begun < 60 ? 1 : 0, 1);
                begun = -1;
            }
        }
    }
}
