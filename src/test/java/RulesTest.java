import java.io.IOException;
import java.nio.file.Files;
import java.nio.file.Paths;
import java.util.HashSet;
import java.util.Set;
import java.util.regex.Matcher;
import java.util.regex.Pattern;

/** The words that LANGUAGE.md rules out, the face, and how long and wide things may be. */
final class RulesTest {
    private static final Check CHECK = new Check("RulesTest");
    private static final String[] RULED_OUT = {
        "\\b(throw|throws|try|catch|finally|synchronized|assert|import|package|volatile|transient|native)\\b",
        "->", "::", "\\bwhile\\b", "Exact\\b", "\\b(equals|hashCode|toString|getClass)\\b",
        "\\b(System|Math|Integer|Long|String|StringBuilder|Arrays|Object|Thread|Random)\\.(?!arraycopy|max|min|bitCount)",
        "\\b(double|float|protected|record|var|yield|instanceof)\\b", "\\[\\]\\s*\\[", "\\]\\s*\\[",
        "^[ ]{4}(?!public|private|//|\\}|/?\\*)\\S", "[^\\x00-\\x7f]", "@",
    };

    public static void main(String[] args) throws IOException {
        String source = Files.readString(Paths.get("src/main/java/BufferRoom.java"));
        String code = source.replaceAll("(?s)/\\*.*?\\*/", "").replaceAll("//[^\n]*", "");
        for (String word : RULED_OUT) {
            Matcher found = Pattern.compile(word, Pattern.MULTILINE).matcher(code);
            CHECK.due(word + (found.find() ? " as in " + found.group() : ""), found.reset().find() ? 1 : 0, 0);
        }
        CHECK.due("classes inside are few and static", count(code, "\\bclass\\b") <= 12 ? 1 : 0, 1);
        CHECK.due("classes inside are static", count(code, "private static final class"), count(code, "\\bclass\\b") - 1);
        CHECK.due("no parameters beyond seven", count(code, "\\((\\w+(\\[\\])? \\w+, ){7}"), 0);
        names(code);
        lengths(source);
        CHECK.close();
    }

    private static int count(String code, String pattern) {
        return (int) Pattern.compile(pattern).matcher(code).results().count();
    }

    private static void names(String code) {
        Set<String> face = new HashSet<>();
        Matcher method = Pattern.compile("^( {4,8})(public )?(private )?(static )?[\\w\\[\\]]+ (\\w+)\\([^;{]*\\) \\{",
            Pattern.MULTILINE).matcher(code);
        while (method.find()) {
            if (method.group(2) != null) {
                face.add(method.group(5));
            }
        }
        CHECK.due("methods of the face", face.size(), 34);
        method.reset();
        while (method.find()) {
            if (method.group(2) == null) {
                CHECK.due("a name of the face, not public: " + method.group(5), face.contains(method.group(5)) ? 1 : 0, 0);
            }
        }
    }

    private static void lengths(String source) {
        int start = 0;
        String[] lines = source.split("\n");
        for (int i = 0; i < lines.length; i++) {
            CHECK.due("line " + (i + 1) + " is short", lines[i].length() <= 110 ? 1 : 0, 1);
            if (lines[i].isEmpty()) {
                start = i;
            }
            CHECK.due("line " + (i + 1) + " stands in a short method", i - start <= 40 ? 1 : 0, 1);
        }
    }
}
