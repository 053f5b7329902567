/** The edges of the calls that change a product, sentence by sentence: promises 1, 4 to 7, 10, 15 and 16. */
final class ChangesEdges {
    private static final int NONE = PartGraphs.NONE;
    private static final long[] NO_GRAMS = {-1, -2, -1000000, 1000001, 1000002, Integer.MAX_VALUE,
        Integer.MIN_VALUE, 1L << 31, 1L << 32, (1L << 32) + 1, (1L << 32) + 1000000, -(1L << 32), 1L << 62,
        Long.MIN_VALUE, Long.MIN_VALUE + 1, Long.MAX_VALUE - 1, Long.MAX_VALUE};

    private ChangesEdges() {
    }

    static void run() {
        newObject();
        part();
        partWhenThereAreTen();
        partOfNoSuchNumbers();
        fasten();
        fastenWhenThereAreTwenty();
        fastenRefused();
        cover();
        coverRefused();
        way();
        wayRefused();
        wayThrows();
        option();
        optionRefused();
        hazard();
        hazardRefused();
        damage();
        damageRefused();
    }

    private static void newObject() {
        Due.sentence("Promise 1", "No parts;");
        PartGraphs graphs = new PartGraphs();
        Due.same("write(0)", NONE, graphs.write(0));
        Due.same("loose()", 0, graphs.loose());
        Due.same("ring(0)", NONE, graphs.ring(0));
        Due.same("family(0, 0)", NONE, graphs.family(0, 0));
        for (int p : new int[] {0, 1, 9, 10, -1, Edges.MIN, Edges.MAX}) {
            Due.refuses("weight(" + p + ")", () -> graphs.weight(p));
            Due.refuses("way(" + p + ", 0, 0)", () -> graphs.way(p, 0, 0));
            Due.refuses("way(0, 0, " + p + ")", () -> graphs.way(0, 0, p));
            Due.same("fasten(" + p + ", 1, 0)", NONE, graphs.fasten(p, 1, 0));
            Due.no("cover(" + p + ", 1)", graphs.cover(p, 1));
            Due.no("option(" + p + ", 0)", graphs.option(p, 0));
            Due.no("hazard(" + p + ", 0)", graphs.hazard(p, 0));
            Due.same("damage(" + p + ", 0)", NONE, graphs.damage(p, 0));
            Due.same("before(" + p + ", 0)", NONE, graphs.before(p, 0));
            Due.same("alike(" + p + ", 0)", NONE, graphs.alike(p, 0));
            Due.no("holds(" + p + ", " + p + ", 0)", graphs.holds(p, p, 0));
            Due.no("free(" + p + ", 0)", graphs.free(p, 0));
            Due.no("plain(" + p + ", 0)", graphs.plain(p, 0));
        }
        Due.same("write(0) behind all that", NONE, graphs.write(0));

        Due.sentence("Promise 1", "no text.");
        Due.same("read()", 0, new PartGraphs().read());
        PartGraphs other = new PartGraphs();
        Due.yes("unit(120)", other.unit('x'));
        Due.same("read(): it was the first byte", -1, other.read());
        Due.same("read() of another new object", 0, new PartGraphs().read());
    }

    private static void part() {
        Due.sentence("Promise 4", "One more part.");
        for (int count = 1; count <= 10; count++) {
            PartGraphs graphs = Told.byCalls("part 3 4 ".repeat(count));
            Due.text("the product of " + count, "part 3 4 ".repeat(count), Told.textOf(graphs));
            Due.same("loose() of " + count, count, graphs.loose());
        }

        Due.sentence("Promise 4", "Answers its number;");
        PartGraphs numbered = new PartGraphs();
        for (int number = 0; number < 10; number++) {
            Due.same("part(1, 1)", number, numbered.part(1, 1));
        }
        PartGraphs behindRead = Told.of("part 1 1 part 1 1 ");
        Due.same("part(1, 1) behind a read of two", 2, behindRead.part(1, 1));
        PartGraphs behindRefused = new PartGraphs();
        Due.same("part(10, 1)", NONE, behindRefused.part(10, 1));
        Due.same("part(1, 1) behind a refused one", 0, behindRefused.part(1, 1));
    }

    private static void partWhenThereAreTen() {
        Due.sentence("Promise 4", "NONE when there are 10,");
        Due.same("part(0, 0) when there are 9", 9, Told.byCalls(Edges.parts(9)).part(0, 0));
        String ten = Edges.parts(10);
        Edges.refused(ten, "part(0, 0) when there are 10", NONE, x -> x.part(0, 0));
        Edges.refused(ten, "part(9, 1000000) when there are 10", NONE, x -> x.part(9, 1000000));
        Edges.refused(ten, "part(10, -1) when there are 10", NONE, x -> x.part(10, -1));
        PartGraphs graphs = Told.byCalls(ten);
        for (int again = 0; again < 3; again++) {
            Due.same("part(0, 0) again and again", NONE, graphs.part(0, 0));
        }
        Due.same("loose()", 10, graphs.loose());
        Due.same("read() of none", 0, graphs.read());
        Due.same("part(0, 0) when there are none again", 0, graphs.part(0, 0));
    }

    private static void partOfNoSuchNumbers() {
        Due.sentence("Promise 4", "or the numbers are not such.");
        for (int kind : Edges.outside(10)) {
            Edges.refused("part(" + kind + ", 1)", NONE, x -> x.part(kind, 1));
        }
        for (long grams : NO_GRAMS) {
            Edges.refused("part(1, " + grams + ")", NONE, x -> x.part(1, grams));
            Edges.refused("part(10, " + grams + ")", NONE, x -> x.part(10, grams));
        }
        for (int kind = 0; kind < 10; kind++) {
            Due.same("part(" + kind + ", 0)", 0, new PartGraphs().part(kind, 0));
        }
        for (long grams : new long[] {0, 1, 999999, 1000000}) {
            PartGraphs graphs = new PartGraphs();
            Due.same("part(9, " + grams + ")", 0, graphs.part(9, grams));
            Due.same("weight(0)", grams, graphs.weight(0));
        }
    }

    private static void fasten() {
        Due.sentence("Promise 5", "One more fastening.");
        PartGraphs graphs = Told.parts(3);
        graphs.fasten(2, 0, 3);
        Due.text("one", Edges.parts(3) + "fasten 2 0 3 ", Told.textOf(graphs));
        graphs.fasten(2, 0, 3);
        Due.text("the same once more", Edges.parts(3) + "fasten 2 0 3 fasten 2 0 3 ", Told.textOf(graphs));
        graphs.fasten(0, 2, 0);
        Due.text("the other way round", Edges.parts(3) + "fasten 2 0 3 fasten 2 0 3 fasten 0 2 0 ",
                Told.textOf(graphs));

        Due.sentence("Promise 5", "Answers its number;");
        PartGraphs numbered = Told.parts(2);
        for (int number = 0; number < 20; number++) {
            Due.same("fasten(1, 0, 0)", number, numbered.fasten(1, 0, 0));
        }
        PartGraphs behindRead = Told.of(Edges.parts(2) + "fasten 0 1 0 ");
        Due.same("fasten(0, 1, 0) behind a read of one", 1, behindRead.fasten(0, 1, 0));
        PartGraphs behindRefused = Told.parts(2);
        Due.same("fasten(0, 1, 4)", NONE, behindRefused.fasten(0, 1, 4));
        Due.same("fasten(0, 1, 0) behind a refused one", 0, behindRefused.fasten(0, 1, 0));
    }

    private static void fastenWhenThereAreTwenty() {
        Due.sentence("Promise 5", "NONE when there are 20,");
        String nineteen = Edges.parts(3) + "fasten 0 1 0 ".repeat(19);
        Due.same("fasten(1, 2, 3) when there are 19", 19, Told.byCalls(nineteen).fasten(1, 2, 3));
        String twenty = nineteen + "fasten 1 0 3 ";
        Edges.refused(twenty, "fasten(0, 1, 0) when there are 20", NONE, x -> x.fasten(0, 1, 0));
        Edges.refused(twenty, "fasten(1, 2, 3) when there are 20", NONE, x -> x.fasten(1, 2, 3));
        Edges.refused(twenty, "fasten(0, 0, 4) when there are 20", NONE, x -> x.fasten(0, 0, 4));
        PartGraphs graphs = Told.byCalls(twenty);
        for (int again = 0; again < 3; again++) {
            Due.same("fasten(1, 2, 0) again and again", NONE, graphs.fasten(1, 2, 0));
        }
        Due.same("loose()", 2, graphs.loose());
        Due.same("read() of two parts", 2, Told.read(graphs, Edges.parts(2)));
        Due.same("fasten(0, 1, 0) when there are none again", 0, graphs.fasten(0, 1, 0));
    }

    private static void fastenRefused() {
        Due.sentence("Promise 5", "there are none such parts,");
        for (int no : Edges.outside(Edges.RICH_PARTS)) {
            Edges.refused("fasten(" + no + ", 0, 0)", NONE, x -> x.fasten(no, 0, 0));
            Edges.refused("fasten(0, " + no + ", 0)", NONE, x -> x.fasten(0, no, 0));
            Edges.refused("fasten(" + no + ", " + no + ", 0)", NONE, x -> x.fasten(no, no, 0));
        }
        for (int count = 2; count <= 10; count++) {
            PartGraphs graphs = Told.parts(count);
            Due.same("fasten with part " + count, NONE, graphs.fasten(0, count, 0));
            Due.same("fasten with the last part", 0, graphs.fasten(0, count - 1, 0));
            Due.same("fasten with the last part first", 1, graphs.fasten(count - 1, 0, 0));
        }

        Due.sentence("Promise 5", "both are the same,");
        for (int part = 0; part < Edges.RICH_PARTS; part++) {
            int same = part;
            Edges.refused("fasten(" + same + ", " + same + ", 0)", NONE, x -> x.fasten(same, same, 0));
        }
        Edges.refused(Edges.parts(10), "fasten(9, 9, 3)", NONE, x -> x.fasten(9, 9, 3));
        Edges.refused(Edges.parts(1), "fasten(0, 0, 0) of one part", NONE, x -> x.fasten(0, 0, 0));

        Due.sentence("Promise 5", "or the kind is not such.");
        for (int kind : Edges.outside(4)) {
            Edges.refused("fasten(0, 1, " + kind + ")", NONE, x -> x.fasten(0, 1, kind));
            Edges.refused("fasten(1, 1, " + kind + ")", NONE, x -> x.fasten(1, 1, kind));
        }
        for (int kind = 0; kind < 4; kind++) {
            PartGraphs graphs = Told.parts(2);
            Due.same("fasten(0, 1, " + kind + ")", 0, graphs.fasten(0, 1, kind));
            Due.text("its kind", Edges.parts(2) + "fasten 0 1 " + kind + " ", Told.textOf(graphs));
        }
    }

    private static void cover() {
        Due.sentence("Promise 6", "A part covers another one.");
        PartGraphs graphs = Told.parts(10);
        graphs.cover(9, 0);
        Due.no("plain(0, 0)", graphs.plain(0, 0));
        Due.yes("plain(0, {9})", graphs.plain(0, 512));
        Due.yes("plain(9, 0)", graphs.plain(9, 0));
        Due.text("the product", Edges.parts(10) + "cover 9 0 ", Told.textOf(graphs));

        Due.sentence("Promise 6", "Answers true;");
        PartGraphs all = Told.parts(10);
        for (int over = 0; over < 10; over++) {
            for (int under = 0; under < 10; under++) {
                if (over != under) {
                    Due.yes("cover(" + over + ", " + under + ")", all.cover(over, under));
                }
            }
        }
    }

    private static void coverRefused() {
        Due.sentence("Promise 6", "false when there are none such,");
        for (int no : Edges.outside(Edges.RICH_PARTS)) {
            Edges.refused("cover(" + no + ", 0)", false, x -> x.cover(no, 0));
            Edges.refused("cover(0, " + no + ")", false, x -> x.cover(0, no));
            Edges.refused("cover(" + no + ", " + no + ")", false, x -> x.cover(no, no));
        }
        for (int count = 2; count <= 10; count++) {
            PartGraphs graphs = Told.parts(count);
            Due.no("cover(0, " + count + ")", graphs.cover(0, count));
            Due.no("cover(" + count + ", 0)", graphs.cover(count, 0));
            Due.yes("cover(0, the last)", graphs.cover(0, count - 1));
            Due.yes("cover(the last, 0)", graphs.cover(count - 1, 0));
        }

        Due.sentence("Promise 6", "both are the same,");
        for (int part = 0; part < Edges.RICH_PARTS; part++) {
            int same = part;
            Edges.refused("cover(" + same + ", " + same + ")", false, x -> x.cover(same, same));
        }
        Edges.refused(Edges.parts(10), "cover(9, 9)", false, x -> x.cover(9, 9));

        Due.sentence("Promise 6", "or it does already.");
        Edges.refused("cover(0, 1) again", false, x -> x.cover(0, 1));
        Edges.refused("cover(3, 2) again", false, x -> x.cover(3, 2));
        Due.yes("cover(1, 0): the other way round", Told.byCalls(Edges.RICH).cover(1, 0));
        Due.no("cover(0, 1) that was read", Told.of(Edges.parts(2) + "cover 0 1 ").cover(0, 1));
        PartGraphs graphs = Told.of(Edges.parts(2) + "cover 0 1 ");
        Due.same("read() of the parts alone", 2, Told.read(graphs, Edges.parts(2)));
        Due.yes("cover(0, 1): it does no more", graphs.cover(0, 1));
    }

    private static void way() {
        Due.sentence("Promise 7", "In a direction another part bars a part.");
        PartGraphs graphs = Told.parts(10);
        for (int direction = 0; direction < 6; direction++) {
            Due.yes("free(0, 0) with " + direction + " directions barred", graphs.free(0, 0));
            graphs.way(0, direction, 9);
        }
        Due.no("free(0, 0) with all directions barred", graphs.free(0, 0));
        Due.yes("free(0, {9})", graphs.free(0, 512));
        Due.yes("free(9, 0)", graphs.free(9, 0));

        Due.sentence("Promise 7", "Answers true;");
        for (int direction = 0; direction < 6; direction++) {
            PartGraphs all = Told.parts(10);
            for (int part = 0; part < 10; part++) {
                for (int other = 0; other < 10; other++) {
                    if (part != other) {
                        Due.yes("way(" + part + ", " + direction + ", " + other + ")",
                                all.way(part, direction, other));
                    }
                }
            }
        }
    }

    private static void wayRefused() {
        Due.sentence("Promise 7", "false when both are the same,");
        for (int direction = 0; direction < 6; direction++) {
            int to = direction;
            for (int part = 0; part < Edges.RICH_PARTS; part++) {
                int same = part;
                Edges.refused("way(" + same + ", " + to + ", " + same + ")", false, x -> x.way(same, to, same));
            }
            Edges.refused(Edges.parts(10), "way(9, " + to + ", 9)", false, x -> x.way(9, to, 9));
            Edges.refused(Edges.parts(1), "way(0, " + to + ", 0) of one part", false, x -> x.way(0, to, 0));
        }

        Due.sentence("Promise 7", "or it does already.");
        Edges.refused("way(1, 0, 2) again", false, x -> x.way(1, 0, 2));
        Edges.refused("way(1, 5, 3) again", false, x -> x.way(1, 5, 3));
        PartGraphs graphs = Told.byCalls(Edges.RICH);
        Due.yes("way(1, 1, 2): the next direction", graphs.way(1, 1, 2));
        Due.yes("way(1, 0, 3): another part", graphs.way(1, 0, 3));
        Due.yes("way(2, 0, 1): the other way round", graphs.way(2, 0, 1));
        Due.yes("way(0, 5, 3): of the part before", graphs.way(0, 5, 3));
        Due.no("way(0, 5, 1) that was read", Told.of(Edges.parts(2) + "way 0 5 1 ").way(0, 5, 1));
    }

    private static void wayThrows() {
        Due.sentence("Promise 7", "ArrayIndexOutOfBoundsException: there are none such parts or direction.");
        for (int no : Edges.outside(Edges.RICH_PARTS)) {
            Edges.refused("way(" + no + ", 0, 1)", Due.THROWS, x -> x.way(no, 0, 1));
            Edges.refused("way(1, 0, " + no + ")", Due.THROWS, x -> x.way(1, 0, no));
            Edges.refused("way(" + no + ", 0, " + no + ")", Due.THROWS, x -> x.way(no, 0, no));
        }
        for (int no : Edges.outside(6)) {
            Edges.refused("way(1, " + no + ", 3)", Due.THROWS, x -> x.way(1, no, 3));
            Edges.refused("way(1, " + no + ", 1)", Due.THROWS, x -> x.way(1, no, 1));
            Edges.refused("way(4, " + no + ", 4)", Due.THROWS, x -> x.way(4, no, 4));
        }
        for (int count = 2; count <= 10; count++) {
            int first = count;
            PartGraphs graphs = Told.parts(count);
            Due.refuses("way(0, 5, " + first + ")", () -> graphs.way(0, 5, first));
            Due.refuses("way(" + first + ", 5, 0)", () -> graphs.way(first, 5, 0));
            Due.yes("way(0, 5, the last)", graphs.way(0, 5, count - 1));
            Due.yes("way(the last, 5, 0)", graphs.way(count - 1, 5, 0));
        }
    }

    private static void option() {
        Due.sentence("Promise 10", "A part is in a family (and in no other).");
        PartGraphs graphs = Told.parts(2);
        for (int family : new int[] {0, 3, 1, 2, 0}) {
            graphs.option(1, family);
            Due.text("the product", Edges.parts(2) + "option 1 " + family + " ", Told.textOf(graphs));
        }
        Edges.row("family(0) with it alone in a family", "0 1 ", k -> graphs.family(0, k));
        graphs.option(0, 0);
        Edges.row("family(0) of two in one family", "0 ", k -> graphs.family(0, k));
        graphs.option(1, 3);
        Edges.row("family(0) of two in two families", "0 1 ", k -> graphs.family(0, k));

        Due.sentence("Promise 10", "Answers true;");
        PartGraphs all = Told.parts(10);
        for (int family = 0; family < 4; family++) {
            for (int part = 0; part < 10; part++) {
                Due.yes("option(" + part + ", " + family + ")", all.option(part, family));
            }
        }
    }

    private static void optionRefused() {
        Due.sentence("Promise 10", "false when there are none such,");
        for (int no : Edges.outside(Edges.RICH_PARTS)) {
            Edges.refused("option(" + no + ", 0)", false, x -> x.option(no, 0));
        }
        for (int no : Edges.outside(4)) {
            Edges.refused("option(0, " + no + "): it is in none", false, x -> x.option(0, no));
            Edges.refused("option(1, " + no + "): it is in one", false, x -> x.option(1, no));
            Edges.refused("option(4, " + no + ")", false, x -> x.option(4, no));
        }
        for (int count = 1; count <= 10; count++) {
            PartGraphs graphs = Told.parts(count);
            Due.no("option(" + count + ", 3)", graphs.option(count, 3));
            Due.yes("option(the last, 3)", graphs.option(count - 1, 3));
        }

        Due.sentence("Promise 10", "or it is in it already.");
        Edges.refused("option(1, 2) again", false, x -> x.option(1, 2));
        Edges.refused("option(2, 0) again", false, x -> x.option(2, 0));
        PartGraphs graphs = Told.byCalls(Edges.RICH);
        Due.yes("option(1, 3): another one", graphs.option(1, 3));
        Due.yes("option(1, 2): in it no more, so again", graphs.option(1, 2));
        Due.yes("option(0, 2): another part", graphs.option(0, 2));
        Due.no("option(0, 3) that was read", Told.of("part 0 1 option 0 3 ").option(0, 3));
    }

    private static void hazard() {
        Due.sentence("Promise 15", "A part has a hazard.");
        for (int h = 0; h < 8; h++) {
            PartGraphs graphs = Told.parts(2);
            graphs.hazard(1, h);
            Due.text("the product", Edges.parts(2) + "hazard 1 " + h + " ", Told.textOf(graphs));
            graphs.hazard(1, 7 - h);
            Due.text("the product with one more", Edges.parts(2) + "hazard 1 " + Math.min(h, 7 - h) + " hazard 1 "
                    + Math.max(h, 7 - h) + " ", Told.textOf(graphs));
        }

        Due.sentence("Promise 15", "Answers true;");
        PartGraphs all = Told.parts(10);
        for (int part = 0; part < 10; part++) {
            for (int h = 0; h < 8; h++) {
                Due.yes("hazard(" + part + ", " + h + ")", all.hazard(part, h));
            }
        }
    }

    private static void hazardRefused() {
        Due.sentence("Promise 15", "false when there are none such,");
        for (int no : Edges.outside(Edges.RICH_PARTS)) {
            Edges.refused("hazard(" + no + ", 0)", false, x -> x.hazard(no, 0));
        }
        for (int no : Edges.outside(8)) {
            Edges.refused("hazard(0, " + no + ")", false, x -> x.hazard(0, no));
            Edges.refused("hazard(2, " + no + ")", false, x -> x.hazard(2, no));
            Edges.refused("hazard(4, " + no + ")", false, x -> x.hazard(4, no));
        }
        for (int count = 1; count <= 10; count++) {
            PartGraphs graphs = Told.parts(count);
            Due.no("hazard(" + count + ", 7)", graphs.hazard(count, 7));
            Due.yes("hazard(the last, 7)", graphs.hazard(count - 1, 7));
        }

        Due.sentence("Promise 15", "or it has it already.");
        Edges.refused("hazard(0, 7) again", false, x -> x.hazard(0, 7));
        Edges.refused("hazard(1, 7) again", false, x -> x.hazard(1, 7));
        PartGraphs graphs = Told.byCalls(Edges.RICH);
        Due.yes("hazard(0, 0): another one", graphs.hazard(0, 0));
        Due.no("hazard(0, 0) again", graphs.hazard(0, 0));
        Due.no("hazard(0, 7): the first still", graphs.hazard(0, 7));
        Due.yes("hazard(2, 7): another part", graphs.hazard(2, 7));
        Due.no("hazard(0, 0) that was read", Told.of("part 0 1 hazard 0 0 ").hazard(0, 0));
    }

    private static void damage() {
        Due.sentence("Promise 16", "A part's damage becomes another one.");
        PartGraphs graphs = Told.parts(2);
        for (int state : new int[] {3, 0, 1, 2, 3, 1}) {
            graphs.damage(1, state);
            String told = state == 0 ? "" : "damage 1 " + state + " ";
            Due.text("the product", Edges.parts(2) + told, Told.textOf(graphs));
        }

        Due.sentence("Promise 16", "Answers what it was;");
        PartGraphs all = Told.parts(10);
        for (int part = 0; part < 10; part++) {
            for (int old = 0; old < 4; old++) {
                all.damage(part, old);
                for (int state = 0; state < 4; state++) {
                    Due.same("damage(" + part + ", " + state + ")", old, all.damage(part, state));
                    Due.same("damage(" + part + ", " + old + ") back", state, all.damage(part, old));
                }
            }
        }
        Due.same("damage(0, 1): 0 at first", 0, Told.parts(1).damage(0, 1));
        Due.same("damage(0, 1) that was read", 3, Told.of("part 0 1 damage 0 3 ").damage(0, 1));
    }

    private static void damageRefused() {
        Due.sentence("Promise 16", "NONE when there are none such.");
        for (int no : Edges.outside(Edges.RICH_PARTS)) {
            Edges.refused("damage(" + no + ", 0)", NONE, x -> x.damage(no, 0));
            Edges.refused("damage(" + no + ", 3)", NONE, x -> x.damage(no, 3));
        }
        for (int no : Edges.outside(4)) {
            Edges.refused("damage(0, " + no + "): it has none", NONE, x -> x.damage(0, no));
            Edges.refused("damage(2, " + no + "): it has one", NONE, x -> x.damage(2, no));
            Edges.refused("damage(4, " + no + ")", NONE, x -> x.damage(4, no));
        }
        for (int count = 1; count <= 10; count++) {
            PartGraphs graphs = Told.parts(count);
            Due.same("damage(" + count + ", 3)", NONE, graphs.damage(count, 3));
            Due.same("damage(the last, 3)", 0, graphs.damage(count - 1, 3));
        }
    }
}
