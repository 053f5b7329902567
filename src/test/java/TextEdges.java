/** The edges of the text that comes in and of the product's text, sentence by sentence: promises 2, 3 and 19. */
final class TextEdges {
    private static final int NONE = PartGraphs.NONE;
    private static final int FULL = 2000;
    private static final String TWO = Edges.parts(2);

    private TextEdges() {
    }

    static void run() {
        unit();
        unitOfNoByte();
        unitWhenThereAre2000();
        readBecomesTheProduct();
        readEmptiesTheText();
        readCountsTheParts();
        readTellsWhere();
        readTellsThatMoreShouldCome();
        readKeepsTheProduct();
        write();
        writeNone();
    }

    /** An object to which a text has come in. */
    private static PartGraphs told(String text) {
        PartGraphs graphs = new PartGraphs();
        for (int i = 0; i < text.length(); i++) {
            graphs.unit(text.charAt(i));
        }
        return graphs;
    }

    private static void reads(String text, int due) {
        Due.same("read() of '" + text + "'", due, told(text).read());
    }

    private static void unit() {
        Due.sentence("Promise 2", "One more byte of the text (0 .. 255).");
        for (int u = 0; u < 256; u++) {
            PartGraphs graphs = new PartGraphs();
            graphs.unit(u);
            Due.same("read() of byte " + u, u == 32 || u == 10 ? 0 : -1, graphs.read());
            graphs.unit(32);
            graphs.unit(u);
            graphs.unit('x');
            Due.same("read() of a blank, byte " + u + " and x", u == 32 || u == 10 ? -3 : -2, graphs.read());
        }
        for (int blanks = 0; blanks < 500; blanks++) {
            reads(" ".repeat(blanks) + "x", -1 - blanks);
        }

        Due.sentence("Promise 2", "Answers true;");
        PartGraphs graphs = new PartGraphs();
        for (int u = 0; u < 256; u++) {
            Due.yes("unit(" + u + ")", graphs.unit(u));
        }
    }

    private static void unitOfNoByte() {
        Due.sentence("Promise 2", "false when it is not such,");
        for (int no : Edges.outside(256)) {
            Edges.refused("unit(" + no + ")", false, x -> x.unit(no));
        }
        for (int no : new int[] {32 + 256, 32 - 256, 10 + 256, 'p' + 256, 'p' - 256, 'p' + 65536, Edges.MIN + 'p'}) {
            Edges.refused("unit(" + no + "): whose low bits are a byte", false, x -> x.unit(no));
        }
        PartGraphs graphs = new PartGraphs();
        Due.no("unit(256) on an empty text", graphs.unit(256));
        Due.no("unit(-1) on an empty text", graphs.unit(-1));
        Due.same("read(): it is empty still", 0, graphs.read());
    }

    private static void unitWhenThereAre2000() {
        Due.sentence("Promise 2", "or there are 2000.");
        // An object's 512 calls don't reach this bound; it holds all the same.
        PartGraphs graphs = told(" ".repeat(FULL - 1));
        Due.yes("unit(120) when there are 1999", graphs.unit('x'));
        Due.no("unit(120) when there are 2000", graphs.unit('x'));
        Due.same("read(): the last byte is the 2000th", -FULL, graphs.read());
        Due.yes("unit(120) when there are none again", graphs.unit('x'));
        Due.same("read() of that", -1, graphs.read());

        PartGraphs blanks = told(" ".repeat(FULL));
        for (int u : new int[] {'x', 0, 255, 32, 10, 256, -1, Edges.MIN, Edges.MAX}) {
            Due.no("unit(" + u + ") when there are 2000", blanks.unit(u));
        }
        Due.same("read(): nothing was put in", 0, blanks.read());

        PartGraphs part = told(" ".repeat(FULL - 8) + "part 1 5");
        Due.no("unit(53) when there are 2000", part.unit('5'));
        Due.same("read() of a part at the end", 1, part.read());
        Due.text("its grams", "part 1 5 ", Told.textOf(part));

        PartGraphs cut = told(" ".repeat(FULL - 6) + "part 1");
        Due.no("unit(32) when there are 2000", cut.unit(32));
        Due.same("read(): more should come behind 2000", -1 - FULL, cut.read());
        PartGraphs refilled = told("x".repeat(FULL));
        Due.same("read() of one word of 2000", -1, refilled.read());
        for (int i = 0; i < FULL; i++) {
            refilled.unit(32);
        }
        Due.no("unit(32) when there are 2000 again", refilled.unit(32));
        Due.same("read() of 2000 blanks", 0, refilled.read());
    }

    private static void readBecomesTheProduct() {
        Due.sentence("Promise 3", "The product becomes that of the text,");
        PartGraphs graphs = told(Edges.RICH);
        Due.same("read() of a rich text", Edges.RICH_PARTS, graphs.read());
        Due.text("all answers", Edges.seen(Told.byCalls(Edges.RICH)), Edges.seen(graphs));
        PartGraphs twice = told("part 1 1 part 2 2 cover 0 1 fasten 0 1 0 ");
        Due.same("read() of two", 2, twice.read());
        Due.same("read() of one, on that", 1, Told.read(twice, "part 3 3"));
        Due.text("the product: nothing is left of the two", "part 3 3 ", Told.textOf(twice));
        Due.same("part(4, 4): the next number", 1, twice.part(4, 4));
        Due.text("the product with it", "part 3 3 part 4 4 ", Told.textOf(twice));
        Due.same("fasten(0, 1, 0): the first number", 0, twice.fasten(0, 1, 0));
        Due.same("read() of the empty text", 0, twice.read());
        Due.text("the product of the empty text", "", Told.textOf(twice));
        String some = "part 1 1 part 1 1 cover 0 1 way 0 0 1 way 1 5 0 hazard 1 3 option 0 1 damage 1 2 fasten 0 1 0 ";
        PartGraphs older = told(some);
        Due.same("read() of some", 2, older.read());
        Due.same("read() of some, once more", 2, Told.read(older, some));
        for (int round = 0; round < 3; round++) {
            Due.same("read() of bare parts", 2, Told.read(older, TWO));
            Due.text("nothing is left of older products", TWO, Told.textOf(older));
        }
        PartGraphs full = Told.byCalls(Edges.parts(10));
        Due.same("read() of ten on ten", 10, Told.read(full, "part 9 9 ".repeat(10)));
        Due.text("the ten", "part 9 9 ".repeat(10), Told.textOf(full));
    }

    private static void readEmptiesTheText() {
        Due.sentence("Promise 3", "which is empty then.");
        PartGraphs graphs = told(TWO);
        Due.same("read()", 2, graphs.read());
        Due.same("read() again: of no text", 0, graphs.read());
        Due.same("read() of x", -1, Told.read(graphs, "x"));
        Due.same("read() again: of no text", 0, graphs.read());
        Due.same("read() of what wants more", -7, Told.read(graphs, "part 1"));
        Due.same("read() of what would have been more", -1, Told.read(graphs, "5"));
        Due.same("read() of a part", 1, Told.read(graphs, "part 1 5"));
        Due.same("read() of x: it begins at 0", -1, Told.read(graphs, "x"));
    }

    private static void readCountsTheParts() {
        Due.sentence("Promise 3", "Answers how many parts it has;");
        for (int count = 0; count <= 10; count++) {
            reads(Edges.parts(count), count);
            reads(Edges.parts(count).trim(), count);
        }
        reads(" ", 0);
        reads("\n", 0);
        reads(Edges.parts(3) + "fasten 0 1 0 fasten 1 2 0 fasten 2 0 0 cover 0 1", 3);
        PartGraphs graphs = Told.byCalls(Edges.parts(7));
        Due.same("read() of none, on seven", 0, graphs.read());
    }

    private static void readTellsWhere() {
        Due.sentence("Promise 3", "or, when some word can't stand, -1 less where the first such word begins");
        reads("x", -1);
        reads(" x", -2);
        reads("\nx y", -2);
        reads("x y z", -1);
        reads("part x y", -6);
        reads("part 1 x", -8);
        reads("part 10 x", -6);
        reads("part 1 1000001 x", -8);
        reads("part 1 5 x", -10);
        reads("part 1 5 part 1 5 part 10 5 part x", -24);
        reads(Edges.parts(10) + "part 0 1 x", -91);
        reads(TWO + "cover 2 2 x", -25);
        reads(TWO + "cover 1 1 x", -27);
        reads(TWO + "way 0 5 1 way 0 5 1 x", -35);
        reads("part 1 5 " + "x".repeat(400), -10);
        reads(" ".repeat(499) + "x", -500);
    }

    private static void readTellsThatMoreShouldCome() {
        Due.sentence("Promise 3", "(how many bytes there are, if more should come);");
        String[] whole = {"part 1 5", "cover 0 1", "way 0 5 1", "fasten 0 1 3", "hazard 0 7", "option 0 3", "damage 0 3"};
        for (String sentence : whole) {
            String[] words = sentence.split(" ");
            String begun = TWO;
            for (int i = 0; i + 1 < words.length; i++) {
                begun = begun + words[i];
                reads(begun, -1 - begun.length());
                reads(begun + " ", -2 - begun.length());
                reads(begun + " \n ", -4 - begun.length());
                begun = begun + " ";
            }
            reads(TWO + sentence, sentence.startsWith("part") ? 3 : 2);
            reads(TWO + sentence + " ", sentence.startsWith("part") ? 3 : 2);
        }
        reads("part", -5);
        reads("part 1", -7);
        reads(" part 1", -8);
        reads("par", -1);
        reads(TWO + "cov", -19);
    }

    private static void readKeepsTheProduct() {
        Due.sentence("Promise 3", "the product is as it was then.");
        String[] failing = {"x", "part", "part 1", "part 1 1000001", "part 10 1", "part 5 5 x", "part 5 5 cover 0 1",
            TWO + "cover 0 1 cover 1 0 cover", TWO + "fasten 0 1 0 fasten 0 0 0", TWO + "damage 0 3 damage 2 0",
            TWO + "option 0 3 option 0 3", TWO + "hazard 1 7 hazard 1 8", TWO + "way 0 0 1 way 0 0 1",
            Edges.parts(10) + "part 0 1", Edges.parts(10) + "fasten 9 8 3 part"};
        String untouched = Edges.seen(Told.byCalls(Edges.RICH));
        for (String text : failing) {
            PartGraphs graphs = Told.byCalls(Edges.RICH);
            Due.yes("read() of '" + text + "' fails", Told.read(graphs, text) < 0);
            Due.text("all answers behind '" + text + "'", untouched, Edges.seen(graphs));
        }
        PartGraphs empty = new PartGraphs();
        Due.same("read() that fails on no parts", -10, Told.read(empty, "part 5 5 x"));
        Due.text("no parts still", Edges.seen(new PartGraphs()), Edges.seen(empty));
        PartGraphs twice = Told.byCalls(Edges.RICH);
        Due.same("read() that fails", -10, Told.read(twice, "part 5 5 x"));
        Due.same("read() that fails again", -10, Told.read(twice, "part 6 6 y"));
        Due.text("all answers behind both", untouched, Edges.seen(twice));
        PartGraphs wasRead = told("part 3 30 part 4 40 cover 1 0 fasten 0 1 2 ");
        Due.same("read() that goes well", 2, wasRead.read());
        Due.same("read() that fails", -10, Told.read(wasRead, "part 5 5 x"));
        Due.same("read() that fails at once", -1, Told.read(wasRead, "x"));
        Due.text("all answers behind them", Edges.seen(Told.byCalls("part 3 30 part 4 40 cover 1 0 fasten 0 1 2 ")),
                Edges.seen(wasRead));
    }

    private static void write() {
        Due.sentence("Promise 19", "Byte i of the product's text;");
        PartGraphs graphs = Told.byCalls("part 7 1000000 part 0 0 cover 1 0 fasten 0 1 3 ");
        String text = "part 7 1000000 part 0 0 cover 1 0 fasten 0 1 3 ";
        for (int i = 0; i < text.length(); i++) {
            Due.same("write(" + i + ")", text.charAt(i), graphs.write(i));
        }
        for (int i = text.length() - 1; i >= 0; i--) {
            Due.same("write(" + i + ") in falling order", text.charAt(i), graphs.write(i));
        }
        Due.yes("unit(120)", graphs.unit('x'));
        Due.same("write(0): not of the text that came in", 'p', graphs.write(0));
    }

    private static void writeNone() {
        Due.sentence("Promise 19", "NONE when there is none such.");
        PartGraphs empty = new PartGraphs();
        for (int no : Edges.outside(0)) {
            Due.same("write(" + no + ") without parts", NONE, empty.write(no));
        }
        PartGraphs one = Told.byCalls("part 1 5 ");
        Due.same("write(8): the last, a blank", ' ', one.write(8));
        for (int no : Edges.outside(9)) {
            Due.same("write(" + no + ") of one part", NONE, one.write(no));
        }
        int length = Told.textOf(Told.byCalls(Edges.RICH)).length();
        for (int no : Edges.outside(length)) {
            Edges.refused("write(" + no + ")", NONE, x -> x.write(no));
        }
        PartGraphs shrunk = Told.byCalls(Edges.parts(10));
        Due.same("write(89) of ten parts", ' ', shrunk.write(89));
        Due.same("read() of none", 0, shrunk.read());
        Due.same("write(0) of none", NONE, shrunk.write(0));
    }
}
