import java.nio.file.Files;
import java.nio.file.Path;
import java.util.List;
import java.util.regex.Matcher;
import java.util.regex.Pattern;

/** Rules of ../shared/LANGUAGE.md that can be seen in the text of the program. */
final class LanguageTest {
    private static final Checks C = new Checks("LanguageTest");
    private static final int LONGEST_METHOD = 60;

    public static void main(String[] args) throws Exception {
        String text = Files.readString(Path.of("src/main/java/PaletteTurns.java"));
        String code = text.replaceAll("(?s)/\\*.*?\\*/", "").replaceAll("//[^\n]*", "");
        for (String word : List.of("throw", "throws", "try", "catch", "finally", "synchronized", "assert", "package",
            "protected", "Object", "System\\.(?!arraycopy)\\w+", "hashCode", "Thread", "Random", "Class", "\\w+Exact")) {
            C.due("how often '" + word + "' stands there", count(code, "\\b" + word + "\\b"), 0);
        }
        C.due("imports beside the library's list", count(code, "\\bimport (?!java\\.util\\.(ArrayList|List|Arrays|Iterator);)"), 0);
        C.due("lambdas and method references", count(code.replaceAll("(case [^\n:]*|default) ->", ""), "->|::"), 0);
        C.due("texts that are joined by +", count(code, "\"\\s*\\+|\\+\\s*\""), 0);
        C.due("static fields that are not final", count(code, "static (?!final)[\\w\\[\\]]+ \\w+ *[=;]"), 0);
        C.due("static initialiser blocks", count(code, "static\\s*\\{"), 0);
        C.due("signs above 127", code.chars().filter(sign -> sign > 127).count(), 0);
        C.holds("classes", count(code, "\\bclass\\b") <= 12);
        methods(code);
        C.end();
    }

    private static int count(String code, String pattern) {
        Matcher matcher = Pattern.compile(pattern).matcher(code);
        int count = 0;
        while (matcher.find()) {
            count++;
        }
        return count;
    }

    private static void methods(String code) {
        String[] lines = code.split("\n");
        int start = 0;
        for (int line = 0; line < lines.length; line++) {
            if (lines[line].matches(" {4,8}[\\w\\[\\] ]*\\w+\\(.*\\) \\{")) {
                start = line;
                C.holds("at most seven parameters: " + lines[line].trim(), lines[line].split(",").length <= 7);
            }
            if (lines[line].matches(" {4,8}\\}")) {
                C.holds("short: " + lines[start].trim(), line - start < LONGEST_METHOD);
            }
        }
    }
}
