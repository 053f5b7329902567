/** What several tests do with an object: tell it a text, and hear one back. */
final class Told {
    private Told() {
    }

    static void tell(PartGraphs graphs, String text) {
        for (int i = 0; i < text.length(); i++) {
            Due.yes("unit(" + (int) text.charAt(i) + ")", graphs.unit(text.charAt(i)));
        }
    }

    static int read(PartGraphs graphs, String text) {
        tell(graphs, text);
        return graphs.read();
    }

    static PartGraphs of(String text) {
        PartGraphs graphs = new PartGraphs();
        int answer = read(graphs, text);
        if (answer < 0) {
            throw new IllegalArgumentException("the test's own text can't stand: " + text + ": " + answer);
        }
        return graphs;
    }

    /** A product of so many parts, all of kind 0 and 1 gram. */
    static PartGraphs parts(int count) {
        PartGraphs graphs = new PartGraphs();
        for (int part = 0; part < count; part++) {
            Due.same("part(0, 1)", part, graphs.part(0, 1));
        }
        return graphs;
    }

    static String textOf(PartGraphs graphs) {
        StringBuilder text = new StringBuilder();
        for (int i = 0; graphs.write(i) != PartGraphs.NONE; i++) {
            text.append((char) graphs.write(i));
        }
        return text.toString();
    }
}
