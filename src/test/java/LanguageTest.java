import java.io.IOException;
import java.nio.file.Files;
import java.nio.file.Path;
import java.util.regex.Matcher;
import java.util.regex.Pattern;

/** What of ../shared/LANGUAGE.md can be seen in the source's words; run in the project's folder. */
public final class LanguageTest {
    private static final String[] NEVER = {
        "->", "::", "\\bpackage\\b", "\\btry\\b", "\\bcatch\\b", "\\bfinally\\b", "\\bsynchronized\\b",
        "\\bassert\\b", "\\brecord\\b", "\\bvar\\b", "Exact\\(", "\\bSystem\\.(?!arraycopy)",
        "\\bMath\\.(?!min|max|abs|floorDiv|floorMod)", "\\bThread\\b", "\\bObject\\b", "\\bnull\\.",
        "\\.(equals|hashCode|toString)\\(", "\\[\\]\\[\\]", "[^\\x00-\\x7f]",
        "\\bimport (?!java\\.util\\.(ArrayList|Arrays|List|Iterator|NoSuchElementException);)",
        "static (?!final|int|long|boolean|void|class)",
    };

    public static void main(String[] args) throws IOException {
        String source = Files.readString(Path.of("src/main/java/TightFive.java"));
        String code = source.replaceAll("(?s)/\\*.*?\\*/", "").replaceAll("//[^\\n]*", "");
        for (String word : NEVER) {
            Matcher found = Pattern.compile(word).matcher(code);
            Check.is("never " + word, found.find() ? found.start() : -1, -1);
        }
        Check.is("some twelve classes", count(code, "\\bclass\\b") <= 12, true);
        Check.is("each parameter list is short", longestParameters(code) <= 7, true);
        Check.finish("LanguageTest");
    }

    private static int count(String code, String word) {
        Matcher found = Pattern.compile(word).matcher(code);
        int many = 0;
        while (found.find()) {
            many++;
        }
        return many;
    }

    private static int longestParameters(String code) {
        Matcher found = Pattern.compile("\\w+ \\w+\\(((?:\\w+ \\w+,\\s*)*\\w+ \\w+)\\)").matcher(code);
        int most = 0;
        while (found.find()) {
            most = Math.max(most, found.group(1).split(",").length);
        }
        return most;
    }
}
