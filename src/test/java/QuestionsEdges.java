/** The edges of the calls that only ask, sentence by sentence: promises 8, 9, 11 to 14, 17, 18 and 20. */
final class QuestionsEdges {
    private static final int NONE = PartGraphs.NONE;
    private static final String TEN = Edges.parts(10);
    private static final String COVERED_IN_TURN = TEN + "cover 0 1 cover 1 2 cover 2 3 cover 3 4 cover 4 5 cover 5 6 "
            + "cover 6 7 cover 7 8 cover 8 9 ";
    private static final String FASTENED_IN_TURN = TEN + "fasten 0 1 0 fasten 1 2 1 fasten 2 3 2 fasten 3 4 3 "
            + "fasten 4 5 0 fasten 5 6 0 fasten 6 7 0 fasten 7 8 0 fasten 8 9 0 ";
    // Sets that have no bit of a part when there are ten, the smallest and the largest long among them.
    private static final long[] NO_PARTS_BITS = {0, 1L << 10, 1L << 31, 1L << 32, 1023L << 32, 1L << 33, 1L << 42,
        1L << 62, Long.MIN_VALUE, Long.MAX_VALUE & ~1023L, ~1023L};

    private QuestionsEdges() {
    }

    static void run() {
        before();
        beforeNone();
        ring();
        ringNone();
        family();
        familyNone();
        holds();
        holdsNone();
        alike();
        alikeNone();
        weight();
        weightThrows();
        free();
        freeNone();
        plain();
        plainNone();
        loose();
    }

    private static void before() {
        Due.sentence("Promise 8", "The k-th part, from 0 on, by numbers, that must come off before a part;");
        StringBuilder due = new StringBuilder();
        for (int p = 0; p < 10; p++) {
            int part = p;
            PartGraphs graphs = Told.byCalls(COVERED_IN_TURN);
            Edges.row("before(" + part + ")", due.toString(), k -> graphs.before(part, k));
            due.append(part).append(' ');
        }
        PartGraphs falling = Told.byCalls(TEN + "cover 9 0 cover 5 9 cover 7 5 ");
        Edges.row("before(0): by numbers, not by turns", "5 7 9 ", k -> falling.before(0, k));
        PartGraphs barred = Told.byCalls(Edges.parts(3) + "way 0 0 2 way 0 1 2 way 0 2 2 way 0 3 2 way 0 4 2 ");
        Edges.row("before(0) with one direction left", "", k -> barred.before(0, k));
        barred.way(0, 5, 1);
        Edges.row("before(0): one of two will do", "", k -> barred.before(0, k));
        barred.way(0, 5, 2);
        Edges.row("before(0) with none left", "2 ", k -> barred.before(0, k));
    }

    private static void beforeNone() {
        Due.sentence("Promise 8", "NONE when there is none such.");
        for (int no : Edges.outside(Edges.RICH_PARTS)) {
            Edges.refused("before(" + no + ", 0)", NONE, x -> x.before(no, 0));
        }
        Due.same("before(1, 0)", 0, Told.byCalls(Edges.RICH).before(1, 0));
        for (int no : Edges.outside(1)) {
            Edges.refused("before(1, " + no + ")", NONE, x -> x.before(1, no));
        }
        for (int k : new int[] {0, 1, -1, Edges.MIN, Edges.MAX}) {
            Edges.refused("before(0, " + k + "): free at once", NONE, x -> x.before(0, k));
        }
        PartGraphs ring = Told.byCalls(Edges.parts(4) + "cover 0 1 cover 1 0 cover 1 2 ");
        for (int k : new int[] {0, 1, -1, Edges.MIN, Edges.MAX}) {
            Due.same("before(0, " + k + ") of the ring", NONE, ring.before(0, k));
            Due.same("before(2, " + k + ") below the ring", NONE, ring.before(2, k));
            Due.same("before(3, " + k + ") beside the ring", NONE, ring.before(3, k));
        }
    }

    private static void ring() {
        Due.sentence("Promise 9", "The k-th part of the ring;");
        PartGraphs all = Told.byCalls(COVERED_IN_TURN + "cover 9 0 ");
        Edges.row("ring of all ten", "0 1 2 3 4 5 6 7 8 9 ", all::ring);
        PartGraphs two = Told.byCalls(TEN + "cover 0 9 cover 9 0 ");
        Edges.row("ring of the first and the last", "0 9 ", two::ring);
        PartGraphs below = Told.byCalls(TEN + "cover 6 5 cover 5 6 cover 6 2 cover 3 7 ");
        Edges.row("ring with one that lies below", "2 5 6 ", below::ring);
    }

    private static void ringNone() {
        Due.sentence("Promise 9", "NONE when there is none such.");
        PartGraphs none = Told.byCalls(COVERED_IN_TURN);
        Edges.row("ring when all can come off", "", none::ring);
        PartGraphs empty = new PartGraphs();
        Edges.row("ring without parts", "", empty::ring);
        PartGraphs one = Told.parts(1);
        Edges.row("ring of one part", "", one::ring);
        String pair = Edges.parts(3) + "cover 2 1 cover 1 2 ";
        for (int no : Edges.outside(2)) {
            Edges.refused(pair, "ring(" + no + ")", NONE, x -> x.ring(no));
        }
    }

    private static void family() {
        Due.sentence("Promise 11", "The k-th part, by numbers, of a variant;");
        PartGraphs none = Told.byCalls(TEN);
        Edges.row("family(0) without families", "0 1 2 3 4 5 6 7 8 9 ", k -> none.family(0, k));
        PartGraphs one = Told.byCalls(TEN + "option 9 3 option 0 3 ");
        Edges.row("family(0)", "0 1 2 3 4 5 6 7 8 ", k -> one.family(0, k));
        Edges.row("family(1)", "1 2 3 4 5 6 7 8 9 ", k -> one.family(1, k));
        PartGraphs alone = Told.byCalls("part 0 1 option 0 0 ");
        Edges.row("family(0) of one part", "0 ", k -> alone.family(0, k));
    }

    private static void familyNone() {
        Due.sentence("Promise 11", "NONE when there is none such.");
        String families = Edges.parts(6) + "option 1 0 option 2 0 option 3 2 option 4 2 option 5 2 ";
        for (int no : Edges.outside(6)) {
            Edges.refused(families, "family(" + no + ", 0)", NONE, x -> x.family(no, 0));
        }
        for (int no : Edges.outside(3)) {
            Edges.refused(families, "family(5, " + no + ")", NONE, x -> x.family(5, no));
        }
        Due.same("family(5, 2): the last of the last", 5, Told.byCalls(families).family(5, 2));
        Due.same("family(0, 0): the first of the first", 0, Told.byCalls(families).family(0, 0));
        PartGraphs none = Told.byCalls(TEN);
        PartGraphs empty = new PartGraphs();
        for (int no : Edges.outside(1)) {
            Due.same("family(" + no + ", 0) without families", NONE, none.family(no, 0));
            Due.same("family(" + no + ", 0) without parts", NONE, empty.family(no, 0));
        }
        Edges.row("family(0) without parts", "", k -> empty.family(0, k));
    }

    private static void holds() {
        Due.sentence("Promise 12", "Whether two parts that are not off hang together by fastenings of parts that are not.");
        PartGraphs chain = Told.byCalls(FASTENED_IN_TURN);
        Due.yes("holds(0, 9, 0)", chain.holds(0, 9, 0));
        Due.yes("holds(9, 0, 0)", chain.holds(9, 0, 0));
        for (int part = 0; part < 10; part++) {
            int off = 1 << part;
            Due.no("holds(0, 9, {" + part + "})", chain.holds(0, 9, off));
            Due.no("holds(9, 0, {" + part + "})", chain.holds(9, 0, off));
        }
        Due.yes("holds(3, 6, all others)", chain.holds(3, 6, 1023 & ~(8 + 16 + 32 + 64)));
        Due.no("holds(3, 6, all others and 5)", chain.holds(3, 6, 1023 & ~(8 + 16 + 64)));
        Due.no("holds(3, 6, all)", chain.holds(3, 6, 1023));
        for (int bits : new int[] {1 << 10, 1 << 30, Edges.MIN, Edges.MAX & ~1023, ~1023}) {
            Due.yes("holds(0, 9, " + bits + "): bits of no part", chain.holds(0, 9, bits));
        }
        Due.no("holds(0, 9, MAX)", chain.holds(0, 9, Edges.MAX));
        Due.no("holds(0, 9, -1)", chain.holds(0, 9, -1));
        PartGraphs round = Told.byCalls(FASTENED_IN_TURN + "fasten 9 0 0 ");
        Due.yes("holds(0, 8, {4}): the other way round", round.holds(0, 8, 16));
        Due.no("holds(0, 8, {4, 9})", round.holds(0, 8, 16 + 512));
        PartGraphs covered = Told.byCalls(Edges.parts(2) + "cover 0 1 way 1 0 0 ");
        Due.no("holds(0, 1, 0): a cover is no fastening", covered.holds(0, 1, 0));

        Due.sentence("Promise 12", "(A part hangs together with itself.)");
        PartGraphs bare = Told.byCalls(TEN);
        for (int part = 0; part < 10; part++) {
            Due.yes("holds(" + part + ", itself, 0)", bare.holds(part, part, 0));
            Due.yes("holds(" + part + ", itself, all others)", bare.holds(part, part, ~(1 << part)));
            Due.no("holds(" + part + ", itself, itself)", bare.holds(part, part, 1 << part));
            Due.no("holds(" + part + ", the next, 0)", bare.holds(part, (part + 1) % 10, 0));
        }
    }

    private static void holdsNone() {
        Due.sentence("Promise 12", "False when there are none such.");
        for (int no : Edges.outside(Edges.RICH_PARTS)) {
            Edges.refused("holds(" + no + ", 0, 0)", false, x -> x.holds(no, 0, 0));
            Edges.refused("holds(0, " + no + ", 0)", false, x -> x.holds(0, no, 0));
            Edges.refused("holds(" + no + ", itself, 0)", false, x -> x.holds(no, no, 0));
            Edges.refused("holds(" + no + ", itself, -1)", false, x -> x.holds(no, no, -1));
        }
        for (int count = 0; count <= 10; count++) {
            PartGraphs graphs = Told.parts(count);
            Due.no("holds(" + count + ", itself, 0)", graphs.holds(count, count, 0));
            Due.compare("holds(the last, itself, 0)", count > 0, graphs.holds(count - 1, count - 1, 0));
        }
    }

    private static void alike() {
        Due.sentence("Promise 13", "The k-th part, by numbers, other than one, that has its kind, grams and hazards;");
        PartGraphs ten = Told.byCalls(TEN);
        Edges.row("alike(0) of ten", "1 2 3 4 5 6 7 8 9 ", k -> ten.alike(0, k));
        Edges.row("alike(4) of ten", "0 1 2 3 5 6 7 8 9 ", k -> ten.alike(4, k));
        Edges.row("alike(9) of ten", "0 1 2 3 4 5 6 7 8 ", k -> ten.alike(9, k));
        PartGraphs kinds = Told.byCalls("part 0 5 part 9 5 part 0 5 ");
        Edges.row("alike(0): another kind is not", "2 ", k -> kinds.alike(0, k));
        PartGraphs grams = Told.byCalls("part 0 0 part 0 1000000 part 0 999999 part 0 1000000 ");
        Edges.row("alike(1): a gram less is not", "3 ", k -> grams.alike(1, k));
        PartGraphs hazards = Told.byCalls(Edges.parts(3) + "hazard 0 0 hazard 0 7 hazard 1 0 hazard 2 7 hazard 2 0 ");
        Edges.row("alike(0): a hazard less is not", "2 ", k -> hazards.alike(0, k));
        hazards.hazard(1, 7);
        Edges.row("alike(0): the same hazards are", "1 2 ", k -> hazards.alike(0, k));
        PartGraphs others = Told.byCalls(Edges.parts(4) + "option 1 3 damage 2 3 cover 3 0 fasten 3 2 0 way 1 0 0 ");
        Edges.row("alike(0): all else is of no matter", "1 2 3 ", k -> others.alike(0, k));
    }

    private static void alikeNone() {
        Due.sentence("Promise 13", "NONE when there is none such.");
        for (int no : Edges.outside(Edges.RICH_PARTS)) {
            Edges.refused("alike(" + no + ", 0)", NONE, x -> x.alike(no, 0));
        }
        Due.same("alike(0, 0)", 1, Told.byCalls(Edges.RICH).alike(0, 0));
        for (int no : Edges.outside(1)) {
            Edges.refused("alike(0, " + no + ")", NONE, x -> x.alike(0, no));
        }
        for (int k : new int[] {0, 1, -1, Edges.MIN, Edges.MAX}) {
            Edges.refused("alike(2, " + k + "): the only one of its kind", NONE, x -> x.alike(2, k));
        }
        PartGraphs one = Told.parts(1);
        Edges.row("alike(0) of one part", "", k -> one.alike(0, k));
        Edges.row("alike(1) of one part", "", k -> one.alike(1, k));
    }

    private static void weight() {
        Due.sentence("Promise 14", "A part's grams, and those of all that hangs together with it when nothing is off.");
        PartGraphs most = Told.byCalls("part 0 1000000 ".repeat(10) + FASTENED_IN_TURN.substring(TEN.length()));
        for (int part = 0; part < 10; part++) {
            Due.same("weight(" + part + ") of the heaviest", 10000000, most.weight(part));
        }
        PartGraphs least = Told.byCalls("part 0 0 part 0 0 fasten 0 1 0 ");
        Due.same("weight(0) of the lightest", 0, least.weight(0));
        PartGraphs alone = Told.byCalls("part 0 1 part 0 20 part 0 300 fasten 0 2 0 fasten 2 0 0 ");
        Due.same("weight(0): fastened twice, weighed once", 301, alone.weight(0));
        Due.same("weight(1): alone", 20, alone.weight(1));
        Due.same("weight(2)", 301, alone.weight(2));
    }

    private static void weightThrows() {
        Due.sentence("Promise 14", "ArrayIndexOutOfBoundsException: there is none such.");
        for (int no : Edges.outside(Edges.RICH_PARTS)) {
            Edges.refused("weight(" + no + ")", Due.THROWS, x -> x.weight(no));
        }
        for (int count = 0; count <= 10; count++) {
            int first = count;
            PartGraphs graphs = Told.parts(count);
            Due.refuses("weight(" + first + ") of " + first + " parts", () -> graphs.weight(first));
            if (count > 0) {
                Due.same("weight(the last)", 1, graphs.weight(count - 1));
            }
        }
    }

    private static void free() {
        Due.sentence("Promise 17", "Whether a part is free when a set is off;");
        PartGraphs chain = Told.byCalls(COVERED_IN_TURN);
        Due.yes("free(0, nothing)", chain.free(0, 0));
        for (int part = 1; part < 10; part++) {
            long over = 1L << part - 1;
            Due.no("free(" + part + ", nothing)", chain.free(part, 0));
            Due.yes("free(" + part + ", what covers it)", chain.free(part, over));
            Due.no("free(" + part + ", all but that and itself)", chain.free(part, 1023 & ~over & ~(1L << part)));
            Due.yes("free(" + part + ", all but itself)", chain.free(part, 1023 & ~(1L << part)));
        }
        for (int left = 0; left < 6; left++) {
            PartGraphs oneWay = Told.parts(2);
            for (int direction = 0; direction < 6; direction++) {
                if (direction != left) {
                    oneWay.way(0, direction, 1);
                }
            }
            Due.yes("free(0, nothing) with direction " + left + " left", oneWay.free(0, 0));
            oneWay.way(0, left, 1);
            Due.no("free(0, nothing) with none left", oneWay.free(0, 0));
            Due.yes("free(0, {1}) with none left", oneWay.free(0, 2));
        }
    }

    private static void freeNone() {
        Due.sentence("Promise 17", "false when there is none such, or it is off.");
        for (int no : Edges.outside(Edges.RICH_PARTS)) {
            Edges.refused("free(" + no + ", 0)", false, x -> x.free(no, 0));
            Edges.refused("free(" + no + ", 15)", false, x -> x.free(no, 15));
            Edges.refused("free(" + no + ", -1)", false, x -> x.free(no, -1));
        }
        PartGraphs ten = Told.byCalls(TEN);
        for (int part = 0; part < 10; part++) {
            Due.yes("free(" + part + ", nothing)", ten.free(part, 0));
            Due.no("free(" + part + ", itself)", ten.free(part, 1L << part));
            Due.yes("free(" + part + ", all others)", ten.free(part, ~(1L << part)));
            Due.no("free(" + part + ", all)", ten.free(part, -1));
            Due.no("free(" + part + ", MAX)", ten.free(part, Long.MAX_VALUE));
        }
        Due.no("free(10, 0) of ten parts", ten.free(10, 0));

        Due.sentence("Promise 17", "(Bits of no part are of no matter.)");
        PartGraphs covered = Told.byCalls(TEN + "cover 0 1 ");
        for (long bits : NO_PARTS_BITS) {
            Due.yes("free(0, " + bits + ")", covered.free(0, bits));
            Due.no("free(1, " + bits + ")", covered.free(1, bits));
            Due.yes("free(1, " + bits + " and 0)", covered.free(1, bits | 1));
            Due.no("free(0, " + bits + " and 0)", covered.free(0, bits | 1));
        }
        PartGraphs two = Told.byCalls(Edges.parts(2));
        Due.yes("free(1, bits of parts that are not there yet)", two.free(1, 1020));
        two.part(0, 1);
        Due.no("free(2, 1020): now it is", two.free(2, 1020));
    }

    private static void plain() {
        Due.sentence("Promise 18", "Whether a part is plain when a set is off;");
        PartGraphs chain = Told.byCalls(COVERED_IN_TURN);
        Due.yes("plain(0, nothing)", chain.plain(0, 0));
        for (int part = 1; part < 10; part++) {
            long over = 1L << part - 1;
            Due.no("plain(" + part + ", nothing)", chain.plain(part, 0));
            Due.yes("plain(" + part + ", what covers it)", chain.plain(part, over));
            Due.no("plain(" + part + ", all but that and itself)", chain.plain(part, 1023 & ~over & ~(1L << part)));
            Due.yes("plain(" + part + ", all but itself)", chain.plain(part, 1023 & ~(1L << part)));
        }
        PartGraphs barred = Told.byCalls(Edges.parts(2) + "way 0 0 1 way 0 1 1 way 0 2 1 way 0 3 1 way 0 4 1 way 0 5 1 ");
        Due.yes("plain(0, nothing), though it is barred", barred.plain(0, 0));
        PartGraphs most = Told.byCalls(TEN + "cover 1 0 cover 2 0 cover 3 0 cover 4 0 cover 5 0 cover 6 0 cover 7 0 "
                + "cover 8 0 cover 9 0 ");
        Due.yes("plain(0, all nine)", most.plain(0, 1022));
        for (int part = 1; part < 10; part++) {
            Due.no("plain(0, all nine but " + part + ")", most.plain(0, 1022 & ~(1L << part)));
        }
    }

    private static void plainNone() {
        Due.sentence("Promise 18", "likewise.");
        for (int no : Edges.outside(Edges.RICH_PARTS)) {
            Edges.refused("plain(" + no + ", 0)", false, x -> x.plain(no, 0));
            Edges.refused("plain(" + no + ", 15)", false, x -> x.plain(no, 15));
            Edges.refused("plain(" + no + ", -1)", false, x -> x.plain(no, -1));
        }
        PartGraphs ten = Told.byCalls(TEN);
        for (int part = 0; part < 10; part++) {
            Due.yes("plain(" + part + ", nothing)", ten.plain(part, 0));
            Due.no("plain(" + part + ", itself)", ten.plain(part, 1L << part));
            Due.yes("plain(" + part + ", all others)", ten.plain(part, ~(1L << part)));
            Due.no("plain(" + part + ", all)", ten.plain(part, -1));
            Due.no("plain(" + part + ", MAX)", ten.plain(part, Long.MAX_VALUE));
        }
        Due.no("plain(10, 0) of ten parts", ten.plain(10, 0));
        PartGraphs covered = Told.byCalls(TEN + "cover 0 1 ");
        for (long bits : NO_PARTS_BITS) {
            Due.yes("plain(0, " + bits + ")", covered.plain(0, bits));
            Due.no("plain(1, " + bits + ")", covered.plain(1, bits));
            Due.yes("plain(1, " + bits + " and 0)", covered.plain(1, bits | 1));
            Due.no("plain(0, " + bits + " and 0)", covered.plain(0, bits | 1));
        }
    }

    private static void loose() {
        Due.sentence("Promise 20", "How many pieces the parts are, of such as hang together when nothing is off.");
        Due.same("loose() without parts", 0, new PartGraphs().loose());
        for (int count = 1; count <= 10; count++) {
            Due.same("loose() of " + count + " bare parts", count, Told.parts(count).loose());
        }
        Due.same("loose() of ten in one piece", 1, Told.byCalls(FASTENED_IN_TURN).loose());
        PartGraphs pairs = Told.byCalls(TEN + "fasten 9 0 0 fasten 8 1 0 fasten 7 2 0 fasten 6 3 0 fasten 5 4 0 ");
        Due.same("loose() of five pairs", 5, pairs.loose());
        PartGraphs twice = Told.byCalls(Edges.parts(2) + "fasten 0 1 0 ".repeat(20));
        Due.same("loose() of two fastened twenty times", 1, twice.loose());
        PartGraphs other = Told.byCalls(Edges.parts(2) + "cover 0 1 way 0 0 1 option 0 1 option 1 1 ");
        Due.same("loose(): nothing but fastenings counts", 2, other.loose());
    }
}
