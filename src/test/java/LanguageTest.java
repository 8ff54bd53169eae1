import java.io.IOException;
import java.nio.file.Files;
import java.nio.file.Path;
import java.util.ArrayList;
import java.util.List;
import java.util.Map;
import java.util.TreeMap;
import java.util.regex.Matcher;
import java.util.regex.Pattern;

/** What of ../shared/LANGUAGE.md can be seen in the source's words; run in the project's folder. */
public final class LanguageTest {
    private static final String[] NEVER = {
        "->", "::", "\\bpackage\\b", "\\btry\\b", "\\bcatch\\b", "\\bfinally\\b", "\\bsynchronized\\b",
        "\\bassert\\b", "\\brecord\\b", "\\bvar\\b", "Exact\\(", "\\bSystem\\.(?!arraycopy)",
        "\\bMath\\.(?!min|max|abs|floorDiv|floorMod)", "\\bThread\\b", "\\bObject\\b", "\\bnull\\.",
        "\\.(equals|hashCode|toString)\\(", "\\[\\]\\[\\]", "[^\\x00-\\x7f]",
        "\\bimport (?!java\\.util\\.(ArrayList|Arrays|List|Iterator|NoSuchElementException);)",
        "static (?!final|int|long|boolean|void|class)",
    };

    public static void main(String[] args) throws IOException {
        String source = Files.readString(Path.of("src/main/java/TightFive.java"));
        String code = source.replaceAll("(?s)/\\*.*?\\*/", "").replaceAll("//[^\\n]*", "");
        for (String word : NEVER) {
            Matcher found = Pattern.compile(word).matcher(code);
            Check.is("never " + word, found.find() ? found.start() : -1, -1);
        }
        Check.is("some twelve classes", count(code, "\\bclass\\b") <= 12, true);
        Check.is("each parameter list is short", longestParameters(code) <= 7, true);
        depth(code);
        Check.finish("LanguageTest");
    }

    /** Rule 11: calls that are no recursion go at most eight deep; methods of a name count as one. */
    private static void depth(String code) {
        Map<String, String> bodies = bodies(code);
        Check.is("methods were found", bodies.size() > 80, true);
        for (String method : bodies.keySet()) {
            List<String> deepest = deepest(method, bodies, new ArrayList<>());
            Check.is("at most eight deep: " + deepest, deepest.size() <= 8, true);
        }
    }

    private static Map<String, String> bodies(String code) {
        Map<String, String> bodies = new TreeMap<>();
        Matcher head = Pattern.compile("(?m)^ {4,8}[\\w ]*?(\\w+)\\([^()]*\\)[\\w\\s,]*\\{").matcher(code);
        while (head.find()) {
            String indent = head.group().replaceAll("(?s)\\S.*", "");
            int end = code.indexOf("\n" + indent + "}", head.end());
            bodies.merge(head.group(1), code.substring(head.end(), end), String::concat);
        }
        bodies.keySet().removeIf(name -> name.matches("if|for|while|switch"));
        return bodies;
    }

    private static List<String> deepest(String method, Map<String, String> bodies, List<String> open) {
        List<String> longest = open;
        if (!bodies.containsKey(method) || open.contains(method)) {
            return longest;
        }
        List<String> path = new ArrayList<>(open);
        path.add(method);
        longest = path;
        Matcher call = Pattern.compile("\\b(\\w+)\\(").matcher(bodies.get(method));
        while (call.find()) {
            List<String> deeper = deepest(call.group(1), bodies, path);
            longest = deeper.size() > longest.size() ? deeper : longest;
        }
        return longest;
    }

    private static int count(String code, String word) {
        Matcher found = Pattern.compile(word).matcher(code);
        int many = 0;
        while (found.find()) {
            many++;
        }
        return many;
    }

    private static int longestParameters(String code) {
        Matcher found = Pattern.compile("\\w+ \\w+\\(((?:\\w+ \\w+,\\s*)*\\w+ \\w+)\\)").matcher(code);
        int most = 0;
        while (found.find()) {
            most = Math.max(most, found.group(1).split(",").length);
        }
        return most;
    }
}
