/** The promises of the text that comes in and of the product's text: 2, 3 and 19. */
public final class TextTest {
    private static final String TWO = "part 1 5 part 1 5 ";

    public static void main(String[] args) {
        promise2Unit();
        promise3ReadsEverySentence();
        promise3EachSentenceDoesItsOwnCallAlone();
        promise3LeavesNothingOfOlderProducts();
        promise3EmptiesTheText();
        promise3WordsAndNumbers();
        promise3MoreShouldCome();
        promise3RefusedAtTheFirstWordThatDecides();
        promise3RefusedWhenFull();
        promise3KeepsTheProduct();
        promise19Write();
        promise19ToldAndReadAgain();
        Due.end();
    }

    private static void promise2Unit() {
        PartGraphs graphs = new PartGraphs();
        for (int no : new int[] {-1, 256, 300, Integer.MIN_VALUE, Integer.MAX_VALUE, 32 + 256}) {
            Due.no("unit(" + no + ")", graphs.unit(no));
        }
        Due.same("read() after refused bytes", 0, graphs.read());
        Due.yes("unit(0)", graphs.unit(0));
        Due.same("read(): 0 is a byte of a word", -1, graphs.read());
        Due.yes("unit(255)", graphs.unit(255));
        Due.same("read(): 255 is a byte of a word", -1, graphs.read());
        for (int i = 0; i < 2000; i++) {
            Due.yes("unit(32), the " + i + "th", graphs.unit(32));
        }
        Due.no("unit(32) when there are 2000", graphs.unit(32));
        Due.same("read() of 2000 blanks", 0, graphs.read());
        Due.yes("unit(120) after read", graphs.unit(120));
        for (int i = 1; i < 2000; i++) {
            graphs.unit(120);
        }
        Due.no("unit(120) when there are 2000", graphs.unit(120));
        Due.same("read() of one word of 2000 bytes", -1, graphs.read());
    }

    private static void promise3ReadsEverySentence() {
        PartGraphs graphs = new PartGraphs();
        Due.same("read() of every sentence", 3, Told.read(graphs, "part 3 500\npart 4 20 \n\n fasten 0 1 3 part 9 1000000"
                + " cover 0 1 way 2 5 1 hazard 1 7 option 0 2 damage 2 3 option 0 1 damage 2 2 damage 1 0"));
        Due.text("what was read", "part 3 500 part 4 20 part 9 1000000 cover 0 1 option 0 1 hazard 1 7 way 2 5 1 "
                + "damage 2 2 fasten 0 1 3 ", Told.textOf(graphs));
        Due.same("read() of another text", 1, Told.read(graphs, "part 0 0"));
        Due.text("nothing of the old product is left", "part 0 0 ", Told.textOf(graphs));
        Due.same("part(1, 1) after it", 1, graphs.part(1, 1));
        Due.text("nothing of the old part 1 is left", "part 0 0 part 1 1 ", Told.textOf(graphs));
        Due.same("read() of blanks alone", 0, Told.read(graphs, " \n "));
        Due.text("no product is left", "", Told.textOf(graphs));
        Due.same("read() of a text on a product", 2, Told.read(Told.parts(10), TWO));
    }

    private static void promise3EachSentenceDoesItsOwnCallAlone() {
        String three = "part 0 0 part 1 0 part 2 1 ";
        String[] sentences = {"", "part 0 1 ", "cover 0 1 ", "way 0 1 2 ", "fasten 0 1 2 ", "hazard 0 1 ",
            "hazard 0 3 ", "option 0 1 ", "option 0 2 ", "damage 0 1 "};
        for (String sentence : sentences) {
            Due.text("the product of " + sentence, three + sentence, Told.textOf(Told.of(three + sentence)));
        }
        Due.text("fasten, then cover", three + "cover 0 1 fasten 1 0 2 ",
                Told.textOf(Told.of(three + "fasten 1 0 2 cover 0 1")));
    }

    private static void promise3LeavesNothingOfOlderProducts() {
        PartGraphs graphs = new PartGraphs();
        String rich = "part 1 1 part 2 2 cover 0 1 cover 1 0 way 0 5 1 way 1 0 0 hazard 0 1 hazard 1 2 option 0 1 "
                + "option 1 2 damage 0 1 damage 1 2 fasten 0 1 3 ";
        for (int round = 0; round < 2; round++) {
            Due.same("read() of a rich product", 2, Told.read(graphs, rich));
        }
        for (int round = 0; round < 3; round++) {
            Due.same("read() of bare parts", 2, Told.read(graphs, TWO));
            Due.text("bare parts", TWO, Told.textOf(graphs));
            Due.same("loose() of bare parts", 2, graphs.loose());
        }
    }

    private static void promise3EmptiesTheText() {
        PartGraphs graphs = new PartGraphs();
        Due.same("read() of two parts", 2, Told.read(graphs, TWO));
        Due.same("read() of no text: no parts", 0, graphs.read());
        Due.same("loose() then", 0, graphs.loose());
        Due.same("read() of what can't stand", -1, Told.read(graphs, "parts"));
        Due.same("read() again: the text is empty", 0, graphs.read());
        Due.same("read() of what can't stand", -7, Told.read(graphs, "part 1"));
        Due.same("read() of a new text", -3, Told.read(graphs, "  part1"));
    }

    private static void promise3WordsAndNumbers() {
        reads("leading noughts", "part 000000009 001000000", 1);
        reads("ten digits", "part 0000000009 5", -6);
        reads("nine digits too many grams", "part 1 999999999", -8);
        reads("a sign", "part 1 -5", -8);
        reads("a plus", "part +1 5", -6);
        reads("a letter behind digits", "part 1 5x", -8);
        reads("a byte below the digits", "part 1 5/", -8);
        reads("a byte above the digits", "part 1 5:", -8);
        reads("a tab is no blank", "part\t1 5", -1);
        reads("a carriage return is no blank", "part 1 5\r\npart 1 5", -8);
        reads("a capital letter", "Part 1 5", -1);
        reads("too short a word", "par 1 5", -1);
        reads("too long a word", "partx 1 5", -1);
        reads("a number where a word is due", "part 1 5 7", -10);
        reads("a word where a number is due", "part part 1 5", -6);
        reads("a word of no sentence: ring", TWO + "ring 0", -19);
        reads("words with many blanks", "\n\n part \n 1\n\n5 \n", 1);
    }

    private static void promise3MoreShouldCome() {
        reads("part", "part", -5);
        reads("part and blanks", "part \n ", -8);
        reads("part 1", "part 1", -7);
        reads("part 1 and a blank", "part 1 ", -8);
        reads("cover 0 and no more", TWO + "cover 0", -26);
        reads("way 0 5 and no more", TWO + "way 0 5 ", -27);
        reads("fasten 1 0 and no more", TWO + "fasten 1 0", -29);
        reads("hazard", TWO + "hazard", -25);
        reads("a sentence cut off by another", TWO + "way 0 5 way", -27);
    }

    private static void promise3RefusedAtTheFirstWordThatDecides() {
        String[] needParts = {"cover", "way", "fasten", "hazard", "option", "damage"};
        for (String word : needParts) {
            reads(word + " without parts", word + " 0 0 0", -1);
            reads(word + " without parts, alone", word, -1);
        }
        reads("cover with one part", "part 0 0 cover 0 1", -10);
        reads("way with one part", "part 0 0 way 0 0 1", -10);
        reads("fasten with one part", "part 0 0 fasten 0 1 0", -10);
        reads("hazard with one part", "part 0 0 hazard 0 7", 1);
        reads("option with one part", "part 0 0 option 0 3", 1);
        reads("damage with one part", "part 0 0 damage 0 3", 1);
        reads("a part told too late", "part 0 0 part 0 0 cover 0 2 part 0 0", -27);

        reads("kind 10", "part 10 5", -6);
        reads("kind 10, alone", "part 10", -6);
        reads("grams 1000001", "part 1 1000001", -8);
        reads("cover 2", TWO + "cover 2 0", -25);
        reads("cover 0 2", TWO + "cover 0 2", -27);
        reads("cover 0 0", TWO + "cover 0 0", -27);
        reads("cover of all that it may", TWO + "cover 0 1 cover 0 1", -35);
        reads("cover of all", TWO + "cover 0 1 cover 1 0 cover 0 1", -39);
        reads("cover of one of two, again", TWO + "part 0 0 cover 0 1 cover 0 1", -46);

        reads("way 2", TWO + "way 2 0 1", -23);
        reads("way 0 6", TWO + "way 0 6 1", -25);
        reads("way 0 5 0", TWO + "way 0 5 0", -27);
        reads("way 0 5 2", TWO + "way 0 5 2", -27);
        reads("way again", TWO + "way 0 5 1 way 0 5 1", -35);
        reads("way again, one of two", TWO + "part 0 0 way 0 5 1 way 0 5 1", -46);
        String ways = TWO + "way 0 0 1 way 0 1 1 way 0 2 1 way 0 3 1 way 0 4 1 way 0 5 1 ";
        reads("way when all directions are barred", ways + "way 0 3 1", -83);
        reads("way of the other part then", ways + "way 1 3 0", 2);
        String both = ways + "way 1 0 0 way 1 1 0 way 1 2 0 way 1 3 0 way 1 4 0 way 1 5 0 ";
        reads("way when all is barred", both + "way 0 3 1", -139);

        reads("fasten 2", TWO + "fasten 2 0 0", -26);
        reads("fasten 0 0", TWO + "fasten 0 0 0", -28);
        reads("fasten 0 2", TWO + "fasten 0 2 0", -28);
        reads("fasten 0 1 4", TWO + "fasten 0 1 4", -30);
        reads("fasten again", TWO + "fasten 0 1 3 fasten 0 1 3 fasten 1 0 0", 2);

        reads("hazard 2", TWO + "hazard 2 0", -26);
        reads("hazard 0 8", TWO + "hazard 0 8", -28);
        reads("hazard again", TWO + "hazard 0 7 hazard 0 7", -39);
        reads("option 2", TWO + "option 2 0", -26);
        reads("option 0 4", TWO + "option 0 4", -28);
        reads("option again", TWO + "option 0 3 option 0 3", -39);
        reads("option there and back", TWO + "option 0 3 option 0 2 option 0 3", 2);
        reads("damage 2", TWO + "damage 2 0", -26);
        reads("damage 0 4", TWO + "damage 0 4", -28);
        reads("damage again", TWO + "damage 0 3 damage 0 3", 2);
    }

    private static void promise3RefusedWhenFull() {
        String ten = "part 0 0 ".repeat(10);
        reads("ten parts", ten, 10);
        reads("eleven parts", ten + "part 0 0", -91);
        reads("the word part behind ten parts", ten + "part", -91);
        StringBuilder covers = new StringBuilder(ten);
        for (int under = 1; under < 9; under++) {
            covers.append("cover 0 ").append(under).append(' ');
        }
        reads("the last part that may be covered", covers + "cover 0 9", 10);
        reads("no part more that may be covered", covers + "cover 0 9 cover 0 9", -1 - covers.length() - 16);
        String twenty = TWO + "fasten 0 1 0 ".repeat(20);
        reads("twenty fastenings", twenty, 2);
        reads("21 fastenings", twenty + "fasten 0 1 0", -1 - twenty.length());
        StringBuilder all = new StringBuilder("part 0 0 ");
        for (int h = 0; h < 8; h++) {
            all.append("hazard 0 ").append(h).append(' ');
        }
        reads("all hazards of all parts", all + "hazard 0 0", -1 - all.length());
        all.append("part 0 0 ");
        reads("all hazards of a part", all + "hazard 0 0", -1 - all.length() - 7);
        reads("a hazard of the other", all + "hazard 1 0", 2);
    }

    private static void promise3KeepsTheProduct() {
        PartGraphs graphs = Told.of(TWO + "cover 0 1 fasten 0 1 2");
        String told = Told.textOf(graphs);
        Due.same("read() that fails late", -35, Told.read(graphs, "part 2 3 part 3 4 way 0 0 1 part 4"));
        Due.text("the product is as it was", told, Told.textOf(graphs));
        Due.same("read() that fails at once", -1, Told.read(graphs, "x"));
        Due.text("the product is as it was still", told, Told.textOf(graphs));
        Due.same("read() that goes well", 1, Told.read(graphs, "part 2 3"));
        Due.text("the product of that text", "part 2 3 ", Told.textOf(graphs));
        Due.same("part(1, 1): nothing of a failed text is left", 1, graphs.part(1, 1));
        Due.text("the product and a part", "part 2 3 part 1 1 ", Told.textOf(graphs));
    }

    private static void promise19Write() {
        PartGraphs graphs = new PartGraphs();
        Due.same("write(0) without parts", -1, graphs.write(0));
        graphs.part(7, 90);
        Due.same("write(-1)", -1, graphs.write(-1));
        Due.same("write(MIN)", -1, graphs.write(Integer.MIN_VALUE));
        Due.same("write(MAX)", -1, graphs.write(Integer.MAX_VALUE));
        Due.same("write(0)", 'p', graphs.write(0));
        Due.same("write(9): a blank behind the last word too", ' ', graphs.write(9));
        Due.same("write(10)", -1, graphs.write(10));
        graphs.part(0, 1000000);
        graphs.part(9, 100);
        graphs.part(1, 10);
        graphs.fasten(3, 0, 2);
        graphs.fasten(0, 1, 0);
        graphs.damage(1, 3);
        graphs.option(1, 0);
        graphs.hazard(1, 7);
        graphs.hazard(1, 2);
        graphs.way(1, 5, 0);
        graphs.way(1, 0, 3);
        graphs.way(1, 0, 2);
        graphs.cover(1, 3);
        graphs.cover(1, 0);
        graphs.cover(0, 1);
        graphs.option(0, 3);
        graphs.damage(3, 1);
        graphs.way(3, 2, 0);
        Due.text("the order of the product's text", "part 7 90 part 0 1000000 part 9 100 part 1 10 "
                + "cover 0 1 option 0 3 "
                + "cover 1 0 cover 1 3 way 1 0 2 way 1 0 3 way 1 5 0 hazard 1 2 hazard 1 7 option 1 0 damage 1 3 "
                + "way 3 2 0 damage 3 1 fasten 3 0 2 fasten 0 1 0 ", Told.textOf(graphs));
        graphs.unit('x');
        Due.same("write(0): the text that comes in is another", 'p', graphs.write(0));
    }

    private static void promise19ToldAndReadAgain() {
        PartGraphs full = Told.parts(10);
        for (int a = 0; a < 10; a++) {
            for (int b = 0; b < 10; b++) {
                if (a != b) {
                    Due.yes("cover", full.cover(a, b));
                    for (int direction = 0; direction < 4; direction++) {
                        Due.yes("way", full.way(a, direction, b));
                    }
                }
            }
        }
        int length = 10 * 9 + 90 * 10 + 90 * 4 * 10;
        Due.same("the last byte of a long text", ' ', full.write(length - 1));
        Due.same("the last number of a long text", '8', full.write(length - 2));
        Due.same("the last way of a long text", 'w', full.write(length - 10));
        Due.same("behind a long text", -1, full.write(length));

        PartGraphs graphs = Told.of("part 1 2 part 3 4 part 5 6 fasten 2 1 3 damage 0 2 hazard 2 5 way 0 4 2 cover 2 0");
        String told = Told.textOf(graphs);
        Due.text("the product's text read again", told, Told.textOf(Told.of(told)));
    }

    private static void reads(String what, String text, int due) {
        Due.same("read() of " + what, due, Told.read(new PartGraphs(), text));
    }
}
