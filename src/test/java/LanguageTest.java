import java.io.IOException;
import java.nio.file.Files;
import java.nio.file.Path;
import java.util.regex.Matcher;
import java.util.regex.Pattern;

/** The rules of LANGUAGE.md that can be seen in the class's letters alone; run in the project's folder. */
public final class LanguageTest {
    private static final String[] BARRED = {
        "\\bimport\\b", "\\bpackage\\b", "->", "::", "\\btry\\b", "\\bcatch\\b", "\\bfinally\\b",
        "\\bsynchronized\\b", "\\bassert\\b", "\\bprotected\\b", "\\bstatic\\s*\\{", "while \\(true\\)",
        "\\bfor \\(;;", "\\bSystem\\b", "\\bObject\\b", "\\bnew \\w*Exception\\((?!\"[a-z ]*\"\\))",
        "\\bprivate static (?!final\\b|abstract\\b|class\\b)[^(]*[;=]", "\\b\\w+Exact\\b",
    };
    private static final int MOST_LINES = 60;

    public static void main(String[] args) throws IOException {
        String source = Files.readString(Path.of("src/main/java/PartGraphs.java"));
        String code = source.replaceAll("(?s)/\\*.*?\\*/", "").replaceAll("//[^\n]*", "");
        for (String barred : BARRED) {
            Matcher found = Pattern.compile(barred).matcher(code);
            Due.text("what the class has of " + barred, "", found.find() ? found.group() : "");
        }
        Due.yes("twelve classes at most", count("\\b(class|enum|record|interface) [A-Z]", code) <= 12);
        int longest = 0;
        int start = 0;
        String[] lines = source.split("\n");
        for (int i = 0; i < lines.length; i++) {
            if (lines[i].matches(" {4,8}[\\w].*\\) .*\\{")) {
                start = i;
            } else if (lines[i].matches(" {4,8}\\}")) {
                longest = Math.max(longest, i - start);
                start = i;
            }
        }
        Due.yes("methods are short: " + longest, longest > 0 && longest <= MOST_LINES);
        Due.end();
    }

    private static int count(String pattern, String code) {
        return (int) Pattern.compile(pattern).matcher(code).results().count();
    }
}
