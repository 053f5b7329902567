import java.io.IOException;
import java.lang.reflect.Field;
import java.lang.reflect.Method;
import java.lang.reflect.Modifier;
import java.nio.file.Files;
import java.nio.file.Path;
import java.util.HashSet;
import java.util.Set;
import java.util.regex.Matcher;
import java.util.regex.Pattern;

/** The rules of LANGUAGE.md that can be seen in the class's letters or members; run in the project's folder. */
public final class LanguageTest {
    private static final String[] BARRED = {
        "\\bimport\\b", "\\bpackage\\b", "->", "::", "\\btry\\b", "\\bcatch\\b", "\\bfinally\\b",
        "\\bsynchronized\\b", "\\bassert\\b", "\\bprotected\\b", "\\bstatic\\s*\\{", "while \\(true\\)",
        "\\bfor \\(;;", "\\bSystem\\b", "\\bObject\\b", "\\bnew \\w*Exception\\((?!\"[a-z ]*\"\\))",
        "\\bprivate static (?!final\\b|abstract\\b|class\\b)[^(]*[;=]", "\\b\\w+Exact\\b",
    };
    /** What the class uses of the library, all of it on rule 4's list but the exception, which the document names. */
    private static final Set<String> LIBRARY_NAMES = Set.of("String", "Integer", "ArrayIndexOutOfBoundsException");
    private static final Set<String> LIBRARY_CALLS = Set.of("length", "charAt", "bitCount", "values");
    private static final int MOST_LINES = 60;
    private static final int MOST_CLASSES = 12;
    private static final int MOST_PARAMETERS = 7;
    private static final int MOST_FIELDS = 20;

    public static void main(String[] args) throws IOException {
        String source = Files.readString(Path.of("src/main/java/PartGraphs.java"));
        String code = source.replaceAll("(?s)/\\*.*?\\*/", "").replaceAll("//[^\n]*", "");
        for (String barred : BARRED) {
            Matcher found = Pattern.compile(barred).matcher(code);
            Due.text("what the class has of " + barred, "", found.find() ? found.group() : "");
        }
        checkLibrary(code.replaceAll("\"[^\"]*\"", ""));
        checkSizes(PartGraphs.class);
        for (Class<?> inside : PartGraphs.class.getDeclaredClasses()) {
            checkSizes(inside);
        }
        Due.yes("classes are few", PartGraphs.class.getDeclaredClasses().length < MOST_CLASSES);
        checkMethodsAreShort(source);
        Due.end();
    }

    private static void checkLibrary(String code) {
        Set<String> own = found("\\b(?:class|enum) (\\w+)", code);
        Set<String> names = found("\\b([A-Z]\\w*[a-z]\\w*)", code);
        names.removeAll(own);
        Due.compare("names of the library", LIBRARY_NAMES, names);
        Set<String> calls = found("\\.(\\w+)\\(", code);
        calls.removeAll(found("^ +(?:private )?(?:static )?\\w+ (\\w+)\\(.*\\) \\{", code));
        Due.compare("calls of the library", LIBRARY_CALLS, calls);
    }

    private static Set<String> found(String pattern, String code) {
        Set<String> found = new HashSet<>();
        Pattern.compile(pattern, Pattern.MULTILINE).matcher(code).results().forEach(one -> found.add(one.group(1)));
        return found;
    }

    private static void checkSizes(Class<?> type) {
        int fields = 0;
        for (Field field : type.getDeclaredFields()) {
            boolean fixed = Modifier.isStatic(field.getModifiers());
            fields += fixed ? 0 : 1;
            Due.yes(field + " is final, if it is static", !fixed || Modifier.isFinal(field.getModifiers()));
        }
        Due.yes(type + " has few fields: " + fields, fields <= MOST_FIELDS);
        for (Method method : type.getDeclaredMethods()) {
            Due.yes(method + " has few parameters", method.getParameterCount() <= MOST_PARAMETERS);
        }
    }

    private static void checkMethodsAreShort(String source) {
        int longest = 0;
        int start = 0;
        String[] lines = source.split("\n");
        for (int i = 0; i < lines.length; i++) {
            if (lines[i].matches(" {4,8}[\\w].*\\) .*\\{")) {
                start = i;
            } else if (lines[i].matches(" {4,8}\\}")) {
                longest = Math.max(longest, i - start);
                start = i;
            }
        }
        Due.yes("methods are short: " + longest, longest > 0 && longest <= MOST_LINES);
    }
}
