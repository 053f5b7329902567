import java.util.HashMap;
import java.util.Map;
import java.util.stream.IntStream;

/** Numbers at the edges of what a call takes, and the check that a refused call has changed nothing. */
final class Edges {
    interface Call {
        Object on(PartGraphs graphs);
    }

    interface Row {
        int at(int k);
    }

    static final int MIN = Integer.MIN_VALUE;
    static final int MAX = Integer.MAX_VALUE;

    /** A product that has something of everything, so that whatever a call changes is seen. */
    static final String RICH = "part 1 20 part 1 20 part 2 0 part 9 1000000 cover 0 1 cover 3 2 way 1 0 2 way 1 5 3 "
            + "way 2 3 0 hazard 0 7 hazard 1 7 option 1 2 option 2 0 damage 2 3 damage 3 1 fasten 0 1 3 fasten 3 2 0 ";
    static final int RICH_PARTS = 4;

    /** Bytes that have come in and wait for read when a refused call is tried. */
    private static final String WAITING = "part 7 77 damage 0 2 ";

    // Beside the next ones: what shifts, masks and casts to fewer bits take for a small number.
    private static final int[] FAR = {MIN, MIN + 1, MIN + 2, -65536, -65535, -1024, -256, -255, -64, -63, -32, -31, -10,
        -4, -3, -2, -1, 3, 4, 5, 6, 7, 8, 9, 10, 11, 16, 20, 21, 31, 32, 33, 63, 64, 65, 100, 128, 255, 256, 257, 1000,
        65535, 65536, 65537, 1 << 30, MAX - 1, MAX};

    private static final Map<String, String> SEEN = new HashMap<>();

    private Edges() {
    }

    /** Numbers that are none of 0 .. count - 1. */
    static int[] outside(int count) {
        return IntStream.concat(IntStream.of(FAR), IntStream.of(count, count + 1))
                .filter(number -> number < 0 || number >= count).distinct().toArray();
    }

    /** A call on a rich product is refused as is due, and nothing is changed by it. */
    static void refused(String name, Object due, Call call) {
        refused(RICH, name, due, call);
    }

    /** A call on the product of these sentences is refused as is due, and nothing is changed by it. */
    static void refused(String sentences, String name, Object due, Call call) {
        PartGraphs tried = withWaiting(sentences);
        Due.compare(name, due, Due.answerOf(() -> call.on(tried)));
        String without = SEEN.computeIfAbsent(sentences, these -> seen(withWaiting(these)));
        Due.text("all answers behind " + name, without, seen(tried));
    }

    private static PartGraphs withWaiting(String sentences) {
        PartGraphs graphs = Told.byCalls(sentences);
        for (int i = 0; i < WAITING.length(); i++) {
            graphs.unit(WAITING.charAt(i));
        }
        return graphs;
    }

    /** What the object answers; the text that came in is last, since reading it ends the product. */
    static String seen(PartGraphs graphs) {
        StringBuilder seen = new StringBuilder(Told.textOf(graphs));
        seen.append("loose ").append(graphs.loose());
        for (int p = 0; p < 10; p++) {
            int part = p;
            seen.append("; ").append(Due.answerOf(() -> graphs.weight(part)));
            seen.append(' ').append(graphs.before(part, 0)).append(' ').append(graphs.ring(part));
            seen.append(' ').append(graphs.family(0, part)).append(' ').append(graphs.alike(part, 0));
            seen.append(' ').append(graphs.free(part, 0)).append(' ').append(graphs.plain(part, 0));
            seen.append(' ').append(graphs.holds(0, part, 0));
        }
        seen.append("; fasten ").append(graphs.fasten(0, 1, 0)).append(" part ").append(graphs.part(0, 0));
        seen.append(" read ").append(graphs.read()).append(' ').append(Told.textOf(graphs));
        return seen.toString();
    }

    /** The whole row that k asks for, and that nothing stands in front of it or behind it. */
    static void row(String name, String due, Row row) {
        StringBuilder got = new StringBuilder();
        int size = 0;
        for (int part = row.at(0); part != PartGraphs.NONE && size < 20; part = row.at(size)) {
            got.append(part).append(' ');
            size++;
        }
        Due.text(name, due, got.toString());
        for (int k : outside(size)) {
            Due.same(name + ", k " + k, PartGraphs.NONE, row.at(k));
        }
    }

    /** Sentences of so many bare parts. */
    static String parts(int count) {
        return "part 0 1 ".repeat(count);
    }
}
