import java.io.IOException;
import java.nio.file.Files;
import java.nio.file.Path;
import java.util.LinkedHashMap;
import java.util.Map;
import java.util.TreeSet;

/** The document's sentences, and which of them have a test: each word of them must be quoted by one. */
final class Document {
    private static final Path FILE = Path.of("../shared/DOC.md");
    private static final Map<String, String> SECTIONS = new LinkedHashMap<>();
    private static final Map<String, boolean[]> QUOTED = new LinkedHashMap<>();

    private Document() {
    }

    /** To be called before the first sentence; run in the project's folder. */
    static void open() {
        try {
            for (String section : Files.readString(FILE).split("(?m)^## ")) {
                keep(section);
            }
        } catch (IOException missing) {
            System.out.println("  no document at " + FILE + ": what is quoted is not looked up");
        }
    }

    private static void keep(String section) {
        String[] headAndBody = section.split("\n", 2);
        if (headAndBody.length < 2) {
            return;
        }
        String body = headAndBody[1].replaceAll("\\s+", " ").trim();
        if (headAndBody[0].startsWith("Promise ")) {
            // What stands in front of it is the face, which FaceTest looks at.
            body = body.substring(body.indexOf("`: ") + 3);
        }
        String name = headAndBody[0].split(":")[0];
        SECTIONS.put(name, body);
        QUOTED.put(name, new boolean[body.length()]);
    }

    /** The members of the public face, written as the Java machine writes them; none if there is no document. */
    static TreeSet<String> face() {
        TreeSet<String> face = new TreeSet<>();
        String body = SECTIONS.getOrDefault("The public face", "{}");
        String members = body.substring(body.indexOf('{') + 1, body.indexOf('}')).trim();
        for (String member : members.isEmpty() ? new String[0] : members.split("; ?")) {
            face.add(asTheMachineWrites(member));
        }
        return face;
    }

    private static String asTheMachineWrites(String member) {
        String withoutValue = member.replaceAll(" = .*", "");
        String typesAlone = withoutValue.replaceAll("(\\w+) \\w+(?=[,)])", "$1").replace(", ", ",");
        String withClass = typesAlone.replaceAll(" (?!PartGraphs)(\\w+)(\\(.*|$)", " PartGraphs.$1$2");
        return withClass.replace("throws ", "throws java.lang.");
    }

    static void quote(String section, String words) {
        if (SECTIONS.isEmpty()) {
            return;
        }
        String body = SECTIONS.getOrDefault(section, "");
        int at = body.indexOf(words);
        Due.yes("the document says in " + section + ": " + words, at >= 0);
        for (int i = at; at >= 0 && i < at + words.length(); i++) {
            QUOTED.get(section)[i] = true;
        }
    }

    /** Whether all words of the terms and of the promises have been quoted. */
    static void checkAllQuoted() {
        int promises = 0;
        for (String section : SECTIONS.keySet()) {
            if (section.equals("Terms") || section.startsWith("Promise ")) {
                Due.text("what has no test in " + section, "", notQuoted(section));
                promises += section.equals("Terms") ? 0 : 1;
            }
        }
        Due.yes("20 promises were looked at: " + promises, SECTIONS.isEmpty() || promises == 20);
    }

    private static String notQuoted(String section) {
        String body = SECTIONS.get(section);
        boolean[] quoted = QUOTED.get(section);
        StringBuilder left = new StringBuilder();
        for (int i = 0; i < quoted.length; i++) {
            if (!quoted[i] && body.charAt(i) != ' ') {
                left.append(body.charAt(i));
            }
        }
        return left.toString();
    }
}
