/** The promises of the calls that only ask: 8, 9, 11 to 14, 17, 18 and 20. */
public final class QuestionsTest {
    private static final int[] NO_PARTS = {-1, 4, 9, 10, 32, Integer.MIN_VALUE, Integer.MAX_VALUE};

    private interface Row {
        int at(int k);
    }

    public static void main(String[] args) {
        promise8Before();
        promise9Ring();
        promise11Family();
        promise12Holds();
        promise13Alike();
        promise14Weight();
        promise17Free();
        promise18Plain();
        promise20Loose();
        Due.end();
    }

    /** The whole row that an index asks for, and that there is nothing beside it. */
    private static void row(String what, String due, Row row) {
        StringBuilder got = new StringBuilder();
        for (int k = 0; row.at(k) != PartGraphs.NONE && k < 20; k++) {
            got.append(row.at(k)).append(' ');
        }
        Due.text(what, due, got.toString());
        for (int k : new int[] {-1, -2, 10, 11, Integer.MIN_VALUE, Integer.MAX_VALUE}) {
            Due.same(what + ", k " + k, -1, row.at(k));
        }
    }

    private static void promise8Before() {
        // 3 is covered by 2; 2 is barred by 0 or by 1 in all directions: neither of those must come off.
        PartGraphs graphs = Told.of("part 0 0 part 0 0 part 0 0 part 0 0 cover 2 3 "
                + "way 2 0 0 way 2 1 0 way 2 2 0 way 2 3 1 way 2 4 1 way 2 5 1 ");
        row("before(0)", "", k -> graphs.before(0, k));
        row("before(2): either will do", "", k -> graphs.before(2, k));
        row("before(3)", "2 ", k -> graphs.before(3, k));
        graphs.way(2, 0, 1);
        graphs.way(2, 1, 1);
        graphs.way(2, 2, 1);
        row("before(2): 1 bars all ways", "1 ", k -> graphs.before(2, k));
        row("before(3): 1 must for 2's sake", "1 2 ", k -> graphs.before(3, k));
        graphs.cover(3, 1);
        row("before(2): it can't come off", "", k -> graphs.before(2, k));
        row("before(3): it can't come off", "", k -> graphs.before(3, k));
        row("before(0): it can", "", k -> graphs.before(0, k));
        for (int no : NO_PARTS) {
            Due.same("before(" + no + ", 0)", -1, graphs.before(no, 0));
        }
        row("before(1): the first part must", "0 ", k -> Told.of("part 0 0 part 0 0 cover 0 1").before(1, k));
        PartGraphs chain = Told.of("part 0 0 ".repeat(10) + "cover 9 0 cover 8 9 cover 7 8 cover 6 7 cover 5 6 "
                + "cover 4 5 cover 3 4 cover 2 3 cover 1 2 ");
        row("before(0) of a chain that falls", "1 2 3 4 5 6 7 8 9 ", k -> chain.before(0, k));
        row("before(5) of a chain that falls", "1 2 3 4 ", k -> chain.before(5, k));
    }

    private static void promise9Ring() {
        PartGraphs graphs = Told.of("part 0 0 part 0 0 part 0 0 part 0 0 cover 1 3 cover 3 1 cover 0 2 ");
        row("ring of a pair that cover each other", "1 3 ", graphs::ring);
        graphs.cover(3, 2);
        row("ring with what lies below it", "1 2 3 ", graphs::ring);
        row("ring of none", "", Told.of("part 0 0 part 0 0 cover 1 0")::ring);
        PartGraphs barred = Told.of("part 0 0 part 0 0 way 0 0 1 way 0 1 1 way 0 2 1 way 0 3 1 way 0 4 1 way 1 0 0 "
                + "way 1 1 0 way 1 2 0 way 1 3 0 way 1 4 0 way 1 5 0 ");
        row("ring when one way is left", "", barred::ring);
        barred.way(0, 5, 1);
        row("ring when no way is left", "0 1 ", barred::ring);
        PartGraphs round = Told.of("part 0 0 ".repeat(10) + "cover 0 1 cover 1 2 cover 2 3 cover 3 4 cover 4 5 "
                + "cover 5 6 cover 6 7 cover 7 8 cover 8 9 cover 9 0 ");
        row("ring of all", "0 1 2 3 4 5 6 7 8 9 ", round::ring);
    }

    private static void promise11Family() {
        PartGraphs graphs = Told.parts(4);
        row("family(0) without families", "0 1 2 3 ", k -> graphs.family(0, k));
        row("family(1) without families", "", k -> graphs.family(1, k));
        graphs.option(3, 1);
        row("family(0) of a family of one", "0 1 2 3 ", k -> graphs.family(0, k));
        row("family(1) of a family of one", "", k -> graphs.family(1, k));
        graphs.option(0, 1);
        graphs.option(1, 3);
        graphs.option(2, 3);
        row("family(0): the first family first", "0 1 ", k -> graphs.family(0, k));
        row("family(1): the last one changes first", "0 2 ", k -> graphs.family(1, k));
        row("family(2)", "1 3 ", k -> graphs.family(2, k));
        row("family(3)", "2 3 ", k -> graphs.family(3, k));
        for (int no : new int[] {4, 5, 8, -1, -4, Integer.MIN_VALUE, Integer.MAX_VALUE}) {
            row("family(" + no + ")", "", k -> graphs.family(no, k));
        }
        graphs.option(1, 0);
        graphs.part(0, 0);
        row("family(0) after a part went to another", "0 1 2 4 ", k -> graphs.family(0, k));
        row("family(1) after a part went to another", "1 2 3 4 ", k -> graphs.family(1, k));
        row("family(2) after a part went to another", "", k -> graphs.family(2, k));
        row("family(0) without parts", "", k -> new PartGraphs().family(0, k));
    }

    private static void promise12Holds() {
        PartGraphs graphs = Told.of("part 0 0 part 0 0 part 0 0 part 0 0 fasten 0 1 0 fasten 2 1 3 ");
        Due.yes("holds(0, 2, 0): over another", graphs.holds(0, 2, 0));
        Due.yes("holds(2, 0, 0)", graphs.holds(2, 0, 0));
        Due.no("holds(0, 2, 2): the other is off", graphs.holds(0, 2, 2));
        Due.yes("holds(0, 1, 4)", graphs.holds(0, 1, 4));
        Due.no("holds(0, 1, 1): a is off", graphs.holds(0, 1, 1));
        Due.no("holds(0, 1, 2): b is off", graphs.holds(0, 1, 2));
        Due.no("holds(0, 3, 0)", graphs.holds(0, 3, 0));
        Due.yes("holds(3, 3, 0): itself", graphs.holds(3, 3, 0));
        Due.no("holds(3, 3, 8): it is off", graphs.holds(3, 3, 8));
        Due.yes("holds(0, 2, bits of no part)", graphs.holds(0, 2, ~15));
        Due.no("holds(0, 0, -1)", graphs.holds(0, 0, -1));
        for (int no : NO_PARTS) {
            Due.no("holds(" + no + ", 0, 0)", graphs.holds(no, 0, 0));
            Due.no("holds(0, " + no + ", 0)", graphs.holds(0, no, 0));
            Due.no("holds(" + no + ", " + no + ", 0)", graphs.holds(no, no, 0));
        }
        PartGraphs chain = Told.of("part 0 0 ".repeat(10) + "fasten 8 9 0 fasten 7 8 0 fasten 6 7 0 fasten 5 6 0 "
                + "fasten 4 5 0 fasten 3 4 0 fasten 2 3 0 fasten 1 2 0 fasten 0 1 0");
        Due.yes("holds(0, 9, 0) of a chain", chain.holds(0, 9, 0));
        Due.yes("holds(9, 0, 0) of a chain", chain.holds(9, 0, 0));
        Due.no("holds(0, 9, 32) of a chain", chain.holds(0, 9, 32));
    }

    private static void promise13Alike() {
        PartGraphs graphs = Told.of("part 1 5 part 2 5 part 1 6 part 1 5 part 1 5 option 3 2 damage 4 1 cover 0 4 ");
        row("alike(0): families, damages, covers are of no matter", "3 4 ", k -> graphs.alike(0, k));
        row("alike(3)", "0 4 ", k -> graphs.alike(3, k));
        row("alike(1): another kind", "", k -> graphs.alike(1, k));
        row("alike(2): other grams", "", k -> graphs.alike(2, k));
        graphs.hazard(3, 7);
        row("alike(0): other hazards", "4 ", k -> graphs.alike(0, k));
        graphs.hazard(0, 7);
        row("alike(0): the same hazards", "3 ", k -> graphs.alike(0, k));
        for (int no : new int[] {-1, 5, 10, Integer.MIN_VALUE, Integer.MAX_VALUE}) {
            row("alike(" + no + ")", "", k -> graphs.alike(no, k));
        }
    }

    private static void promise14Weight() {
        PartGraphs graphs = Told.of("part 0 1000000 part 0 20 part 0 3 part 0 0 fasten 0 1 0 fasten 2 1 3 ");
        Due.same("weight(0)", 1000023, graphs.weight(0));
        Due.same("weight(1)", 1000023, graphs.weight(1));
        Due.same("weight(2)", 1000023, graphs.weight(2));
        Due.same("weight(3)", 0, graphs.weight(3));
        for (int no : NO_PARTS) {
            Due.refuses("weight(" + no + ")", () -> graphs.weight(no));
        }
        PartGraphs heavy = Told.of("part 0 1000000 ".repeat(10) + "fasten 0 1 0 fasten 0 2 0 fasten 0 3 0 "
                + "fasten 0 4 0 fasten 0 5 0 fasten 0 6 0 fasten 0 7 0 fasten 0 8 0 fasten 0 9 0 ");
        Due.same("weight(9) of the heaviest", 10000000, heavy.weight(9));
    }

    private static void promise17Free() {
        PartGraphs graphs = Told.of("part 0 0 part 0 0 part 0 0 part 0 0 cover 2 0 "
                + "way 0 0 1 way 0 1 1 way 0 2 1 way 0 3 1 way 0 4 1 way 0 5 3 way 0 5 1 ");
        Due.no("free(0, 0)", graphs.free(0, 0));
        Due.no("free(0, {2}): plain, but barred", graphs.free(0, 4));
        Due.no("free(0, {1}): not barred, but covered", graphs.free(0, 2));
        Due.yes("free(0, {1, 2})", graphs.free(0, 6));
        Due.no("free(0, {2, 3}): 1 bars all ways", graphs.free(0, 12));
        Due.yes("free(1, 0): it bars, it is not barred", graphs.free(1, 0));
        Due.no("free(1, {1}): it is off", graphs.free(1, 2));
        Due.yes("free(1, bits of no part)", graphs.free(1, -16L));
        Due.yes("free(1, a high bit)", graphs.free(1, 1L << 33));
        Due.no("free(0, high bits alone)", graphs.free(0, 6L << 32));
        Due.no("free(0, -1)", graphs.free(0, -1));
        for (int no : NO_PARTS) {
            Due.no("free(" + no + ", 0)", graphs.free(no, 0));
            Due.no("free(" + no + ", -1)", graphs.free(no, -1));
        }
        for (int left = 0; left < 6; left++) {
            PartGraphs oneWay = Told.parts(2);
            for (int direction = 0; direction < 6; direction++) {
                if (direction != left) {
                    oneWay.way(0, direction, 1);
                }
            }
            Due.yes("free(0, 0): direction " + left + " is left", oneWay.free(0, 0));
            oneWay.way(0, left, 1);
            Due.no("free(0, 0): none is left", oneWay.free(0, 0));
        }
        // In every direction a part is off and another is not: no direction is free of both.
        PartGraphs mixed = Told.of("part 0 0 part 0 0 part 0 0 way 0 0 1 way 0 0 2 way 0 1 1 way 0 2 2 way 0 3 2 "
                + "way 0 4 2 way 0 5 2 ");
        Due.yes("free(0, {1})", mixed.free(0, 2));
        Due.no("free(0, 0)", mixed.free(0, 0));
    }

    private static void promise18Plain() {
        PartGraphs graphs = Told.of("part 0 0 part 0 0 part 0 0 part 0 0 cover 2 0 cover 3 0 "
                + "way 1 0 0 way 1 1 0 way 1 2 0 way 1 3 0 way 1 4 0 way 1 5 0 ");
        Due.no("plain(0, 0)", graphs.plain(0, 0));
        Due.no("plain(0, {2})", graphs.plain(0, 4));
        Due.no("plain(0, {3})", graphs.plain(0, 8));
        Due.yes("plain(0, {2, 3})", graphs.plain(0, 12));
        Due.no("plain(0, {0, 2, 3}): it is off", graphs.plain(0, 13));
        Due.yes("plain(1, 0): barred, but plain", graphs.plain(1, 0));
        Due.no("free(1, 0): plain, but barred", graphs.free(1, 0));
        Due.yes("plain(1, bits of no part)", graphs.plain(1, -16L));
        Due.no("plain(0, high bits alone)", graphs.plain(0, 12L << 32));
        Due.no("plain(1, -1)", graphs.plain(1, -1));
        for (int no : NO_PARTS) {
            Due.no("plain(" + no + ", 0)", graphs.plain(no, 0));
            Due.no("plain(" + no + ", -1)", graphs.plain(no, -1));
        }
    }

    private static void promise20Loose() {
        PartGraphs graphs = Told.parts(4);
        Due.same("loose() of four", 4, graphs.loose());
        graphs.fasten(0, 3, 0);
        Due.same("loose() of two fastened", 3, graphs.loose());
        graphs.fasten(3, 0, 0);
        Due.same("loose() of two fastened twice", 3, graphs.loose());
        graphs.fasten(1, 2, 0);
        Due.same("loose() of two pairs", 2, graphs.loose());
        graphs.fasten(2, 3, 0);
        Due.same("loose() of all", 1, graphs.loose());
        graphs.part(0, 0);
        Due.same("loose() with one more", 2, graphs.loose());
        Due.same("loose() without parts", 0, new PartGraphs().loose());
    }
}
