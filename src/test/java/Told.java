import java.util.Arrays;

/** What several tests do with an object: tell it a text, and hear one back. */
final class Told {
    private Told() {
    }

    static void tell(PartGraphs graphs, String text) {
        for (int i = 0; i < text.length(); i++) {
            Due.yes("unit(" + (int) text.charAt(i) + ")", graphs.unit(text.charAt(i)));
        }
    }

    static int read(PartGraphs graphs, String text) {
        tell(graphs, text);
        return graphs.read();
    }

    static PartGraphs of(String text) {
        PartGraphs graphs = new PartGraphs();
        int answer = read(graphs, text);
        if (answer < 0) {
            throw new IllegalArgumentException("the test's own text can't stand: " + text + ": " + answer);
        }
        return graphs;
    }

    /** A product of so many parts, all of kind 0 and 1 gram. */
    static PartGraphs parts(int count) {
        PartGraphs graphs = new PartGraphs();
        for (int part = 0; part < count; part++) {
            Due.same("part(0, 1)", part, graphs.part(0, 1));
        }
        return graphs;
    }

    static String textOf(PartGraphs graphs) {
        StringBuilder text = new StringBuilder();
        int i = 0;
        for (int told = graphs.write(0); told != PartGraphs.NONE; told = graphs.write(i)) {
            text.append((char) told);
            i++;
        }
        return text.toString();
    }

    /** The product of the sentences, told by calls: an object has few calls, and a text takes one a byte. */
    static PartGraphs byCalls(String sentences) {
        PartGraphs graphs = new PartGraphs();
        String[] words = sentences.split(" ");
        int at = 0;
        while (at < words.length && !words[at].isEmpty()) {
            int size = sizeOf(words[at]);
            String[] sentence = Arrays.copyOfRange(words, at, at + size);
            if (!isTaken(call(graphs, sentence))) {
                throw new IllegalArgumentException("the test's own call is refused: " + String.join(" ", sentence));
            }
            at += size;
        }
        return graphs;
    }

    static int sizeOf(String word) {
        return word.equals("way") || word.equals("fasten") ? 4 : 3;
    }

    /** What the call of a sentence answers, or the name of what it throws. */
    static Object call(PartGraphs graphs, String... sentence) {
        int a = Integer.parseInt(sentence[1]);
        int b = Integer.parseInt(sentence[2]);
        int c = sentence.length > 3 ? Integer.parseInt(sentence[3]) : 0;
        return Due.answerOf(() -> switch (sentence[0]) {
            case "part" -> graphs.part(a, b);
            case "cover" -> graphs.cover(a, b);
            case "way" -> graphs.way(a, b, c);
            case "fasten" -> graphs.fasten(a, b, c);
            case "hazard" -> graphs.hazard(a, b);
            case "option" -> graphs.option(a, b);
            case "damage" -> graphs.damage(a, b);
            default -> throw new IllegalArgumentException("no such sentence: " + sentence[0]);
        });
    }

    static boolean isTaken(Object answer) {
        return answer.equals(true) || answer instanceof Integer number && number >= 0;
    }
}
