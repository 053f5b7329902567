import java.io.IOException;
import java.lang.reflect.Method;
import java.lang.reflect.Modifier;
import java.net.URL;
import java.net.URLClassLoader;
import java.nio.file.DirectoryStream;
import java.nio.file.Files;
import java.nio.file.Path;
import java.util.ArrayList;
import java.util.List;
import java.util.regex.Matcher;
import java.util.regex.Pattern;
import javax.tools.ToolProvider;

/** README.md's examples answer what they say, and it names every call and every test; run in the project's folder. */
public final class ReadmeTest {
    private static final Pattern BLOCK = Pattern.compile("(?s)```java\n(.*?)```");
    /** A call, kept in a name or not, and what stands behind it: the answer, and why after a colon. */
    private static final Pattern ANSWERED =
            Pattern.compile("(?:int (\\w+) = )?(.*);\\s+// ?([^:]*)(?:: .*)?");

    public static void main(String[] args) throws Exception {
        String readme = Files.readString(Path.of("README.md"));
        int blocks = 0;
        Matcher block = BLOCK.matcher(readme);
        while (block.find()) {
            runExample("Example" + blocks, block.group(1));
            blocks++;
        }
        Due.same("examples", 2, blocks);
        for (Method method : PartGraphs.class.getDeclaredMethods()) {
            if (Modifier.isPublic(method.getModifiers())) {
                Due.yes("README.md tells of " + method.getName(), readme.contains("`" + method.getName() + "("));
            }
        }
        try (DirectoryStream<Path> tests = Files.newDirectoryStream(Path.of("src/test/java"), "*Test.java")) {
            for (Path test : tests) {
                String name = test.getFileName().toString().replace(".java", "");
                Due.yes("README.md tells of " + name, readme.contains("| `" + name + "` |"));
            }
        }
        Due.end();
    }

    /** The example is compiled as it stands, but that its answers are gathered with those that it tells. */
    private static void runExample(String name, String block) throws Exception {
        StringBuilder source = new StringBuilder("public final class " + name
                + " { public static void run(java.util.List<String> rows) {\n");
        for (String line : block.split("\n")) {
            source.append(gathering(line)).append('\n');
        }
        source.append("}}\n");
        List<String> rows = new ArrayList<>();
        try (URLClassLoader loader = new URLClassLoader(new URL[] {compiled(name, source.toString())})) {
            loader.loadClass(name).getMethod("run", List.class).invoke(null, rows);
        }
        Due.yes(name + " has answers", rows.size() >= 3);
        for (int i = 0; i + 2 < rows.size(); i += 3) {
            Due.text("README.md's " + rows.get(i), rows.get(i + 1), rows.get(i + 2));
        }
    }

    private static String gathering(String line) {
        Matcher answered = ANSWERED.matcher(line);
        if (!answered.matches()) {
            return line;
        }
        String call = answered.group(2);
        String kept = answered.group(1);
        String declared = kept == null ? "" : "int " + kept + " = " + call + "; ";
        return declared + "rows.add(\"" + call.replace("\"", "\\\"") + "\"); rows.add(\"" + answered.group(3)
                + "\"); rows.add(String.valueOf(" + (kept == null ? call : kept) + "));";
    }

    private static URL compiled(String name, String source) throws IOException {
        Path folder = Files.createTempDirectory("readme");
        Path file = folder.resolve(name + ".java");
        Files.writeString(file, source);
        int code = ToolProvider.getSystemJavaCompiler().run(null, null, null, "-cp",
                System.getProperty("java.class.path"), "-d", folder.toString(), file.toString());
        Due.same("javac of README.md's " + name, 0, code);
        // The last one told is the first to go.
        for (Path made : List.of(folder, file, folder.resolve(name + ".class"))) {
            made.toFile().deleteOnExit();
        }
        return folder.toUri().toURL();
    }
}
