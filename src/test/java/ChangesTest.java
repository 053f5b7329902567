/** The promises of the calls that change a product: 1, 4 to 7, 10, 15 and 16. */
public final class ChangesTest {
    private static final int[] NO_PARTS = {-1, 3, 9, 10, Integer.MIN_VALUE, Integer.MAX_VALUE};

    public static void main(String[] args) {
        promise1NewObject();
        promise4Part();
        promise5Fasten();
        promise6Cover();
        promise7Way();
        promise10Option();
        promise15Hazard();
        promise16Damage();
        refusedChangesNothing();
        objectsAreApart();
        Due.end();
    }

    private static void promise1NewObject() {
        PartGraphs graphs = new PartGraphs();
        Due.text("the text of a new object", "", Told.textOf(graphs));
        Due.same("loose() of a new object", 0, graphs.loose());
        Due.same("ring(0) of a new object", -1, graphs.ring(0));
        Due.same("family(0, 0) of a new object", -1, graphs.family(0, 0));
        Due.same("alike(0, 0) of a new object", -1, graphs.alike(0, 0));
        Due.same("damage(0, 0) of a new object", -1, graphs.damage(0, 0));
        Due.no("holds(0, 0, 0) of a new object", graphs.holds(0, 0, 0));
        Due.no("plain(0, 0) of a new object", graphs.plain(0, 0));
        Due.no("free(0, 0) of a new object", graphs.free(0, 0));
        Due.same("read() of a new object", 0, graphs.read());
        Due.same("part(9, 1000000)", 0, graphs.part(9, 1000000));
        Due.same("damage(0, 0): 0 at first", 0, graphs.damage(0, 0));
        Due.text("a part has nothing at first", "part 9 1000000 ", Told.textOf(graphs));
    }

    private static void promise4Part() {
        PartGraphs graphs = new PartGraphs();
        Due.same("part(-1, 0)", -1, graphs.part(-1, 0));
        Due.same("part(10, 0)", -1, graphs.part(10, 0));
        Due.same("part(MAX, 0)", -1, graphs.part(Integer.MAX_VALUE, 0));
        Due.same("part(MIN, 0)", -1, graphs.part(Integer.MIN_VALUE, 0));
        Due.same("part(0, -1)", -1, graphs.part(0, -1));
        Due.same("part(0, 1000001)", -1, graphs.part(0, 1000001));
        Due.same("part(0, 2^32): no int of it", -1, graphs.part(0, 1L << 32));
        Due.same("part(0, MAX)", -1, graphs.part(0, Long.MAX_VALUE));
        Due.same("part(0, MIN)", -1, graphs.part(0, Long.MIN_VALUE));
        Due.text("refused parts are not there", "", Told.textOf(graphs));
        Due.same("part(0, 0)", 0, graphs.part(0, 0));
        Due.same("part(9, 1000000)", 1, graphs.part(9, 1000000));
        for (int part = 2; part < 10; part++) {
            Due.same("part " + part, part, graphs.part(part, part * 11));
        }
        Due.same("part(0, 0) when there are 10", -1, graphs.part(0, 0));
        Due.text("ten parts", "part 0 0 part 9 1000000 part 2 22 part 3 33 part 4 44 part 5 55 part 6 66 "
                + "part 7 77 part 8 88 part 9 99 ", Told.textOf(graphs));
        Due.same("loose() of ten parts", 10, graphs.loose());
    }

    private static void promise5Fasten() {
        PartGraphs graphs = Told.parts(3);
        Due.same("fasten(0, 0, 0)", -1, graphs.fasten(0, 0, 0));
        Due.same("fasten(0, 1, -1)", -1, graphs.fasten(0, 1, -1));
        Due.same("fasten(0, 1, 4)", -1, graphs.fasten(0, 1, 4));
        for (int no : NO_PARTS) {
            Due.same("fasten(0, " + no + ", 0)", -1, graphs.fasten(0, no, 0));
            Due.same("fasten(" + no + ", 0, 0)", -1, graphs.fasten(no, 0, 0));
        }
        Due.same("loose() after refused ones", 3, graphs.loose());
        Due.same("fasten(2, 0, 3)", 0, graphs.fasten(2, 0, 3));
        Due.same("fasten(2, 0, 3) again", 1, graphs.fasten(2, 0, 3));
        Due.same("fasten(0, 2, 0)", 2, graphs.fasten(0, 2, 0));
        Due.text("fastenings as they were told", "part 0 1 part 0 1 part 0 1 fasten 2 0 3 fasten 2 0 3 fasten 0 2 0 ",
                Told.textOf(graphs));
        for (int fastening = 3; fastening < 20; fastening++) {
            Due.same("fastening " + fastening, fastening, graphs.fasten(1, 0, fastening % 4));
        }
        Due.same("fasten(1, 2, 0) when there are 20", -1, graphs.fasten(1, 2, 0));
        Due.same("loose() of all fastened", 1, graphs.loose());
    }

    private static void promise6Cover() {
        PartGraphs graphs = Told.parts(3);
        Due.no("cover(1, 1)", graphs.cover(1, 1));
        for (int no : NO_PARTS) {
            Due.no("cover(0, " + no + ")", graphs.cover(0, no));
            Due.no("cover(" + no + ", 0)", graphs.cover(no, 0));
        }
        Due.yes("cover(0, 2)", graphs.cover(0, 2));
        Due.no("cover(0, 2) again", graphs.cover(0, 2));
        Due.yes("plain(0, 0): it covers, it is not covered", graphs.plain(0, 0));
        Due.no("plain(2, 0): it is covered", graphs.plain(2, 0));
        Due.yes("cover(2, 0): the other way round", graphs.cover(2, 0));
        Due.text("covers", "part 0 1 part 0 1 part 0 1 cover 0 2 cover 2 0 ", Told.textOf(graphs));
    }

    private static void promise7Way() {
        PartGraphs graphs = Told.parts(3);
        for (int no : NO_PARTS) {
            Due.refuses("way(" + no + ", 0, 1)", () -> graphs.way(no, 0, 1));
            Due.refuses("way(1, 0, " + no + ")", () -> graphs.way(1, 0, no));
            Due.refuses("way(" + no + ", 0, " + no + "): both are the same", () -> graphs.way(no, 0, no));
        }
        for (int no : new int[] {-1, 6, Integer.MIN_VALUE, Integer.MAX_VALUE}) {
            Due.refuses("way(0, " + no + ", 1)", () -> graphs.way(0, no, 1));
            Due.refuses("way(0, " + no + ", 0): both are the same", () -> graphs.way(0, no, 0));
        }
        Due.no("way(1, 5, 1)", graphs.way(1, 5, 1));
        Due.yes("way(1, 5, 2)", graphs.way(1, 5, 2));
        Due.no("way(1, 5, 2) again", graphs.way(1, 5, 2));
        Due.yes("way(1, 0, 2): another direction", graphs.way(1, 0, 2));
        Due.yes("way(1, 5, 0): another part", graphs.way(1, 5, 0));
        Due.yes("way(2, 5, 1): the other way round", graphs.way(2, 5, 1));
        Due.text("ways", "part 0 1 part 0 1 part 0 1 way 1 0 2 way 1 5 0 way 1 5 2 way 2 5 1 ",
                Told.textOf(graphs));
    }

    private static void promise10Option() {
        PartGraphs graphs = Told.parts(3);
        for (int no : NO_PARTS) {
            Due.no("option(" + no + ", 0)", graphs.option(no, 0));
        }
        Due.no("option(0, -1): none is no family", graphs.option(0, -1));
        Due.no("option(0, 4)", graphs.option(0, 4));
        Due.yes("option(1, 3)", graphs.option(1, 3));
        Due.no("option(1, 3) again", graphs.option(1, 3));
        Due.no("option(1, -1): never out of it", graphs.option(1, -1));
        Due.yes("option(2, 3)", graphs.option(2, 3));
        Due.yes("option(1, 0): in no other then", graphs.option(1, 0));
        Due.text("options", "part 0 1 part 0 1 part 0 1 option 1 0 option 2 3 ", Told.textOf(graphs));
        Due.yes("option(1, 3): back", graphs.option(1, 3));
    }

    private static void promise15Hazard() {
        PartGraphs graphs = Told.parts(3);
        for (int no : NO_PARTS) {
            Due.no("hazard(" + no + ", 0)", graphs.hazard(no, 0));
        }
        Due.no("hazard(0, -1)", graphs.hazard(0, -1));
        Due.no("hazard(0, 8)", graphs.hazard(0, 8));
        Due.no("hazard(0, 32): no shift round", graphs.hazard(0, 32));
        Due.yes("hazard(1, 7)", graphs.hazard(1, 7));
        Due.no("hazard(1, 7) again", graphs.hazard(1, 7));
        Due.yes("hazard(1, 0)", graphs.hazard(1, 0));
        Due.yes("hazard(2, 7): another part", graphs.hazard(2, 7));
        Due.text("hazards", "part 0 1 part 0 1 part 0 1 hazard 1 0 hazard 1 7 hazard 2 7 ", Told.textOf(graphs));
    }

    private static void promise16Damage() {
        PartGraphs graphs = Told.parts(3);
        for (int no : NO_PARTS) {
            Due.same("damage(" + no + ", 0)", -1, graphs.damage(no, 0));
        }
        Due.same("damage(1, 3)", 0, graphs.damage(1, 3));
        Due.same("damage(1, -1)", -1, graphs.damage(1, -1));
        Due.same("damage(1, 4)", -1, graphs.damage(1, 4));
        Due.same("damage(1, 3): the same", 3, graphs.damage(1, 3));
        Due.text("damage", "part 0 1 part 0 1 part 0 1 damage 1 3 ", Told.textOf(graphs));
        Due.same("damage(1, 0)", 3, graphs.damage(1, 0));
        Due.same("damage(2, 1)", 0, graphs.damage(2, 1));
        Due.text("damage of 0 is not told", "part 0 1 part 0 1 part 0 1 damage 2 1 ", Told.textOf(graphs));
    }

    private static void refusedChangesNothing() {
        PartGraphs graphs = Told.of("part 1 2 part 1 2 part 3 4 cover 0 1 way 2 0 1 hazard 0 3 option 1 2 "
                + "damage 2 1 fasten 0 2 3 ");
        String told = Told.textOf(graphs);
        graphs.part(10, 0);
        graphs.part(0, -1);
        graphs.fasten(0, 3, 0);
        graphs.fasten(0, 1, 4);
        graphs.cover(0, 0);
        graphs.cover(3, 0);
        Due.refuses("way(2, 6, 1)", () -> graphs.way(2, 6, 1));
        Due.refuses("way(2, 0, 3)", () -> graphs.way(2, 0, 3));
        Due.no("way(2, 0, 2)", graphs.way(2, 0, 2));
        graphs.option(1, 4);
        graphs.hazard(0, 8);
        graphs.damage(2, 4);
        graphs.unit(256);
        Due.text("the product after refused calls", told, Told.textOf(graphs));
        Due.same("read(): no text came in", 0, graphs.read());
    }

    private static void objectsAreApart() {
        PartGraphs one = Told.parts(2);
        PartGraphs two = Told.parts(2);
        Due.yes("cover(0, 1) of one", one.cover(0, 1));
        Due.yes("plain(1, 0) of two", two.plain(1, 0));
        Due.yes("unit(33) of one", one.unit(33));
        Due.same("read() of two", 0, two.read());
        Due.same("loose() of one", 2, one.loose());
    }
}
