import java.util.Collections;
import java.util.List;

/** The bounds of the document's terms, sentence by sentence, each by calls and by a text. */
final class TermsEdges {
    private static final int NONE = PartGraphs.NONE;
    private static final String TWO = Edges.parts(2);
    private static final String TEN = Edges.parts(10);
    private static final String[] WORDS = {"part", "cover", "way", "fasten", "hazard", "option", "damage"};
    // More than any number may be that a word takes but grams, so that no end of a sentence is left out.
    private static final int NUMBERS = 12;

    private TermsEdges() {
    }

    static void run() {
        calls();
        parts();
        covers();
        directions();
        fastenings();
        damages();
        hazards();
        families();
        sets();
        plain();
        free();
        canComeOff();
        mustComeOff();
        neverComesOff();
        variants();
        variantNumbers();
        text();
        words();
        numbers();
        sentences();
        sentencesDoWhatCallsDo();
        partsMustBeThere();
        noSuchWord();
        refusedWhateverComes();
        refusedWhenTold();
        productsText();
        productsTextOfAPart();
        productsTextOfFastenings();
        productsTextInDecimals();
        refusedChangesNothing();
    }

    private static void reads(String text, int due) {
        Due.same("read() of '" + text + "'", due, Told.read(new PartGraphs(), text));
    }

    private static void tells(String sentences, String due) {
        Due.text("the text of " + sentences, due, Told.textOf(Told.byCalls(sentences)));
    }

    private static void calls() {
        Due.sentence("What it is", "An object is used for at most 512 calls after it has been made;");
        PartGraphs graphs = Told.byCalls(TEN);
        for (int call = 11; call < 510; call++) {
            Due.same("loose(), call " + call, 10, graphs.loose());
        }
        Due.same("fasten(8, 9, 0), call 510", 0, graphs.fasten(8, 9, 0));
        Due.refuses("weight(10), call 511", () -> graphs.weight(10));
        Due.same("loose(), call 512", 9, graphs.loose());
    }

    private static void parts() {
        Due.sentence("Terms", "There are PARTS, numbered from 0 on, 10 at most, each with a KIND, 0 .. 9, "
                + "and grams, 0 .. 1000000.");
        PartGraphs graphs = new PartGraphs();
        for (int number = 0; number < 10; number++) {
            Due.same("part(" + (9 - number) + ", 1)", number, graphs.part(9 - number, 1));
        }
        Due.same("part(0, 1), the eleventh", NONE, graphs.part(0, 1));
        reads(TEN, 10);
        reads(TEN + "part 0 1", -91);
        reads("part 0 1", 1);
        reads("part 9 1", 1);
        reads("part 10 1", -6);
        reads("part 999999999 1", -6);
        reads("part 0 0", 1);
        reads("part 0 1000000", 1);
        reads("part 0 1000001", -8);
        reads("part 0 999999999", -8);
        reads("part -1 1", -6);
        reads("part 0 -1", -8);
        tells("part 0 0 part 9 1000000 ", "part 0 0 part 9 1000000 ");
    }

    private static void covers() {
        Due.sentence("Terms", "A part may COVER another one.");
        String all = TEN;
        for (int under = 1; under < 10; under++) {
            all = all + "cover 0 " + under + " ";
        }
        tells(all, all);
        reads(all, 10);
        String mutual = TWO + "cover 0 1 cover 1 0 ";
        tells(mutual, mutual);
        reads(mutual, 2);
        reads(TWO + "cover 0 0", -27);
        reads(TWO + "cover 0 2", -27);
        reads(TEN + "cover 9 8", 10);
        reads(TEN + "cover 9 10", -99);
        reads(TEN + "cover 10 9", -97);
    }

    private static void directions() {
        Due.sentence("Terms", "In each of six DIRECTIONS, 0 .. 5, parts may BAR a part.");
        for (int direction = 0; direction < 6; direction++) {
            String many = TEN;
            for (int other = 1; other < 10; other++) {
                many = many + "way 0 " + direction + " " + other + " ";
            }
            tells(many, many);
            reads(many, 10);
        }
        reads(TWO + "way 0 0 1", 2);
        reads(TWO + "way 0 5 1", 2);
        reads(TWO + "way 0 6 1", -25);
        reads(TWO + "way 0 999999999 1", -25);
        reads(TWO + "way 0 -1 1", -25);
    }

    private static void fastenings() {
        Due.sentence("Terms", "There are FASTENINGS, numbered from 0 on, 20 at most, each between two parts, "
                + "of a kind 0 .. 3.");
        PartGraphs graphs = Told.byCalls(TWO);
        for (int number = 0; number < 20; number++) {
            Due.same("fasten(0, 1, " + number % 4 + ")", number, graphs.fasten(0, 1, number % 4));
        }
        Due.same("fasten(0, 1, 0), the 21st", NONE, graphs.fasten(0, 1, 0));
        String twenty = TWO + "fasten 0 1 3 ".repeat(20);
        reads(twenty, 2);
        reads(twenty + "fasten 0 1 3", -1 - twenty.length());
        reads(twenty + "part 0 1 cover 0 2", 3);
        reads(TWO + "fasten 0 1 0", 2);
        reads(TWO + "fasten 0 1 3", 2);
        reads(TWO + "fasten 0 1 4", -30);
        reads(TWO + "fasten 0 1 999999999", -30);
        reads(TWO + "fasten 0 0 1", -28);
    }

    private static void damages() {
        Due.sentence("Terms", "A part has a damage, 0 .. 3 (0 at first),");
        PartGraphs graphs = Told.byCalls(TEN);
        for (int part = 0; part < 10; part++) {
            Due.same("damage(" + part + ", 3), at first", 0, graphs.damage(part, 3));
            Due.same("damage(" + part + ", 4)", NONE, graphs.damage(part, 4));
            Due.same("damage(" + part + ", -1)", NONE, graphs.damage(part, -1));
            Due.same("damage(" + part + ", 0)", 3, graphs.damage(part, 0));
        }
        reads(TWO + "damage 1 0", 2);
        reads(TWO + "damage 1 3", 2);
        reads(TWO + "damage 1 4", -28);
        reads(TWO + "damage 1 999999999", -28);
        PartGraphs again = Told.of("part 0 1 damage 0 3 ");
        Due.same("read() of a new part", 1, Told.read(again, "part 0 1"));
        Due.same("damage(0, 1), at first again", 0, again.damage(0, 1));
    }

    private static void hazards() {
        Due.sentence("Terms", "HAZARDS of 0 .. 7,");
        for (int h = 0; h < 8; h++) {
            reads(TWO + "hazard 1 " + h, 2);
            Due.yes("hazard(1, " + h + ")", Told.byCalls(TWO).hazard(1, h));
        }
        reads(TWO + "hazard 1 8", -28);
        reads(TWO + "hazard 1 999999999", -28);
        Due.no("hazard(1, 8)", Told.byCalls(TWO).hazard(1, 8));
        Due.no("hazard(1, -1)", Told.byCalls(TWO).hazard(1, -1));
        String all = TWO;
        for (int h = 0; h < 8; h++) {
            all = all + "hazard 0 " + h + " ";
        }
        tells(all, all);
        reads(all, 2);
        tells(TWO, TWO);
    }

    private static void families() {
        Due.sentence("Terms", "and is in one FAMILY of 0 .. 3, or in none (at first).");
        for (int family = 0; family < 4; family++) {
            reads(TWO + "option 1 " + family, 2);
            tells(TWO + "option 1 " + family + " ", TWO + "option 1 " + family + " ");
            tells(TWO + "option 1 " + (family + 1) % 4 + " option 1 " + family + " ", TWO + "option 1 " + family + " ");
        }
        reads(TWO + "option 1 4", -28);
        reads(TWO + "option 1 999999999", -28);
        Due.no("option(1, 4)", Told.byCalls(TWO).option(1, 4));
        Due.no("option(1, -1)", Told.byCalls(TWO).option(1, -1));
        PartGraphs graphs = Told.of("part 0 1 part 0 1 option 0 1 option 1 1 ");
        Due.same("read() of two new parts", 2, Told.read(graphs, TWO));
        Edges.row("family(0): in none at first", "0 1 ", k -> graphs.family(0, k));
    }

    private static void sets() {
        Due.sentence("Terms", "SETS of parts are told as the sum of 2^p.");
        PartGraphs graphs = Told.byCalls(TEN);
        for (int set = 0; set < 1024; set += 31) {
            for (int part = 0; part < 10; part++) {
                boolean on = set / (int) Math.pow(2, part) % 2 == 0;
                Due.compare("free(" + part + ", " + set + ")", on, graphs.free(part, set));
            }
        }
        for (int part = 0; part < 10; part++) {
            int only = 1 << part;
            PartGraphs fresh = Told.byCalls(TEN);
            Due.no("plain(" + part + ", 2^" + part + ")", fresh.plain(part, only));
            Due.no("holds(" + part + ", " + part + ", 2^" + part + ")", fresh.holds(part, part, only));
            Due.yes("plain(" + part + ", 2^" + part + " - 1)", fresh.plain(part, only - 1));
            Due.yes("plain(" + part + ", 2 * 2^" + part + ")", fresh.plain(part, 2L * only));
        }
    }

    private static void plain() {
        Due.sentence("Terms", "With a set of parts that are off a part that is not is PLAIN if no part covers it "
                + "that is not off;");
        PartGraphs graphs = Told.byCalls(Edges.parts(4) + "cover 1 0 cover 3 0 ");
        for (int off = 0; off < 16; off++) {
            Due.compare("plain(0, " + off + ")", off == 10 || off == 14, graphs.plain(0, off));
            Due.compare("plain(2, " + off + ")", (off & 4) == 0, graphs.plain(2, off));
        }
    }

    private static void free() {
        Due.sentence("Terms", "it is FREE if it is plain and there is a direction in which no part bars it "
                + "that is not off.");
        String sentences = Edges.parts(4) + "way 0 0 1 way 0 1 1 way 0 2 1 way 0 3 1 way 0 4 1 way 0 5 2 way 0 5 3 ";
        PartGraphs barred = Told.byCalls(sentences);
        PartGraphs covered = Told.byCalls(sentences + "cover 3 0 ");
        for (int off = 0; off < 16; off++) {
            boolean one = (off & 2) != 0;
            boolean twoAndThree = (off & 12) == 12;
            boolean on = (off & 1) == 0;
            Due.compare("free(0, " + off + ")", on && (one || twoAndThree), barred.free(0, off));
            Due.compare("free(0, " + off + "), covered by 3", on && (off & 8) != 0 && (one || twoAndThree),
                    covered.free(0, off));
        }
    }

    private static void canComeOff() {
        Due.sentence("Terms", "A part CAN come off, when parts come off one by one, each when it is free.");
        String rising = TEN;
        String falling = TEN;
        for (int part = 0; part < 9; part++) {
            rising = rising + "cover " + part + " " + (part + 1) + " ";
            falling = falling + "cover " + (part + 1) + " " + part + " ";
        }
        Due.same("ring(0): ten in turn", NONE, Told.byCalls(rising).ring(0));
        Due.same("ring(0): ten in falling turn", NONE, Told.byCalls(falling).ring(0));
        Due.same("before(9, 8): all nine before the last", 8, Told.byCalls(rising).before(9, 8));
        Due.same("before(0, 8): all nine before the first", 9, Told.byCalls(falling).before(0, 8));
        PartGraphs both = Told.byCalls(TWO + "cover 0 1 cover 1 0 ");
        Due.same("ring(1): two at once would be, one by one not", 1, both.ring(1));
    }

    private static void mustComeOff() {
        Due.sentence("Terms", "Another one MUST come off before it, if it can, but could not if that one never came off.");
        PartGraphs graphs = Told.byCalls(Edges.parts(5) + "cover 4 1 cover 1 0 cover 2 3 cover 3 2 ");
        Edges.row("before(0)", "1 4 ", k -> graphs.before(0, k));
        Edges.row("before(1)", "4 ", k -> graphs.before(1, k));
        Edges.row("before(4)", "", k -> graphs.before(4, k));
        Edges.row("before(2): it can't", "", k -> graphs.before(2, k));
        PartGraphs either = Told.byCalls(Edges.parts(4) + "way 0 0 1 way 0 1 1 way 0 2 1 way 0 3 2 way 0 4 2 way 0 5 2 "
                + "cover 3 1 cover 3 2 ");
        Edges.row("before(0): 1 or 2 will do, 3 is over both", "3 ", k -> either.before(0, k));
    }

    private static void neverComesOff() {
        Due.sentence("Terms", "Those that can never come off make the RING.");
        String ways = TWO + "way 0 0 1 way 0 1 1 way 0 2 1 way 0 3 1 way 0 4 1 cover 0 1 ";
        PartGraphs oneLeft = Told.byCalls(ways);
        Edges.row("ring with one direction left", "", oneLeft::ring);
        PartGraphs noneLeft = Told.byCalls(ways + "way 0 5 1 ");
        Edges.row("ring with none left", "0 1 ", noneLeft::ring);
        PartGraphs below = Told.byCalls(Edges.parts(4) + "cover 1 3 cover 3 1 cover 1 0 ");
        Edges.row("ring: what lies below one never comes off either", "0 1 3 ", below::ring);
    }

    private static void variants() {
        Due.sentence("Terms", "VARIANTS of the product have all parts that are in no family and, of each family "
                + "that has parts, one;");
        PartGraphs graphs = Told.byCalls(Edges.parts(5) + "option 1 3 option 4 3 option 2 1 ");
        Edges.row("family(0)", "0 1 2 3 ", k -> graphs.family(0, k));
        Edges.row("family(1)", "0 2 3 4 ", k -> graphs.family(1, k));
        Edges.row("family(2)", "", k -> graphs.family(2, k));
        PartGraphs all = Told.byCalls(TEN + "option 0 0 option 1 0 option 2 0 option 3 0 option 4 0 option 5 0 "
                + "option 6 0 option 7 0 option 8 0 option 9 0 ");
        for (int choice = 0; choice < 10; choice++) {
            Due.same("family(" + choice + ", 0) of ten in one", choice, all.family(choice, 0));
            Due.same("family(" + choice + ", 1) of ten in one", NONE, all.family(choice, 1));
        }
        Due.same("family(10, 0) of ten in one", NONE, all.family(10, 0));
    }

    private static void variantNumbers() {
        Due.sentence("Terms", "they are numbered from 0 on: by the part of the first family that has some, "
                + "then of the next, and so on, each by numbers.");
        String options = "option 9 0 option 8 0 option 7 0 option 6 1 option 5 1 option 4 1 option 3 2 option 2 2 "
                + "option 1 3 option 0 3 ";
        int choice = 0;
        for (int first = 7; first < 10; first++) {
            for (int second = 4; second < 7; second++) {
                PartGraphs graphs = Told.byCalls(TEN + options);
                for (int third = 2; third < 4; third++) {
                    for (int fourth = 0; fourth < 2; fourth++) {
                        int number = choice;
                        Edges.row("family(" + number + ")", fourth + " " + third + " " + second + " " + first + " ",
                                k -> graphs.family(number, k));
                        choice++;
                    }
                }
            }
        }
        Due.same("how many there are", 36, choice);
        Due.same("family(36, 0)", NONE, Told.byCalls(TEN + options).family(36, 0));
        Due.same("family(-1, 0)", NONE, Told.byCalls(TEN + options).family(-1, 0));
        PartGraphs gap = Told.byCalls(Edges.parts(4) + "option 0 3 option 1 3 option 2 1 option 3 1 ");
        Edges.row("family(1): the families 0 and 2 have none", "1 2 ", k -> gap.family(1, k));
        Edges.row("family(2)", "0 3 ", k -> gap.family(2, k));
    }

    private static void text() {
        Due.sentence("Terms", "THE TEXT are bytes that came in, 2000 at most;");
        // An object's 512 calls don't reach this bound; it holds all the same.
        PartGraphs graphs = new PartGraphs();
        for (int i = 0; i < 2000; i++) {
            Due.yes("unit, the " + i + "th", graphs.unit(i < 1991 ? 10 : "part 1 5 ".charAt(i - 1991)));
        }
        Due.no("unit, the 2000th", graphs.unit('x'));
        Due.same("read() of 2000 bytes", 1, graphs.read());
        reads("", 0);
    }

    private static void words() {
        Due.sentence("Terms", "WORDS are its rows of bytes other than 32 and 10, as long as they can be;");
        for (int u = 0; u < 256; u++) {
            boolean blank = u == 32 || u == 10;
            reads("part" + (char) u + "1 5", blank ? 1 : -1);
            boolean digit = u >= '0' && u <= '9';
            reads("part 1 5" + (char) u, blank || digit ? 1 : -8);
            reads((char) u + "part 1 5", blank ? 1 : -1);
        }
        PartGraphs graphs = new PartGraphs();
        Due.same("read() of words with many blanks", 2, Told.read(graphs, "\n \npart\n1\n \n23\n\npart 4 56 \n"));
        Due.text("the words, as long as they can be", "part 1 23 part 4 56 ", Told.textOf(graphs));
        reads("part 1 5part 1 5", -8);
        reads("partpart 1 5", -1);
    }

    private static void numbers() {
        Due.sentence("Terms", "NUMBERS are words of one to nine digits.");
        for (int u = 0; u < 256; u++) {
            if (u != 32 && u != 10) {
                boolean digit = u >= '0' && u <= '9';
                reads("part " + (char) u + " 5", digit ? 1 : -6);
                reads("part 0" + (char) u + " 5", digit ? 1 : -6);
                reads("part 1 " + (char) u + "5", digit ? 1 : -8);
            }
        }
        for (int digits = 1; digits <= 12; digits++) {
            reads("part " + "0".repeat(digits - 1) + "9 5", digits <= 9 ? 1 : -6);
            reads("part 1 " + "0".repeat(digits), digits <= 9 ? 1 : -8);
        }
        PartGraphs graphs = new PartGraphs();
        Due.same("read() of noughts in front", 1, Told.read(graphs, "part 000000009 001000000"));
        Due.text("the numbers", "part 9 1000000 ", Told.textOf(graphs));
        // These would be numbers that may be, if only some of their bits or digits were kept.
        for (String no : new String[] {"4294967297", "4294967296", "18446744073709551617", "1000000000", "256", "65537",
            "1".repeat(300)}) {
            reads("part " + no + " 5", -6);
        }
        reads("part 1 4294967301", -8);
        reads("part 1 999999999", -8);
        reads("part 1 268435457", -8);
    }

    private static void sentences() {
        Due.sentence("Terms", "It is a row of SENTENCES, each a word and numbers: part KIND GRAMS; cover OVER UNDER; "
                + "way PART DIRECTION OTHER; fasten A B KIND; hazard PART HAZARD; option PART FAMILY; "
                + "damage PART STATE.");
        for (String word : WORDS) {
            String whole = Edges.parts(3) + word + (Told.sizeOf(word) == 4 ? " 0 1 1" : " 0 1");
            int parts = word.equals("part") ? 4 : 3;
            reads(whole, parts);
            reads(whole + " 1", -2 - whole.length());
            reads(whole + " part 0 1", parts + 1);
            String oneLess = whole.substring(0, whole.length() - 2);
            reads(oneLess, -1 - oneLess.length());
            reads(oneLess + " part 0 1", -2 - oneLess.length());
        }
        reads("", 0);
        tells(Edges.parts(3) + "cover 2 1 way 2 4 1 ", Edges.parts(3) + "cover 2 1 way 2 4 1 ");
    }

    private static void sentencesDoWhatCallsDo() {
        Due.sentence("Terms", "Each does what the call of that name does;");
        compareWithCalls("");
        compareWithCalls(Edges.parts(1));
        compareWithCalls(TWO);
        compareWithCalls(TEN);
        compareWithCalls(Edges.RICH);
    }

    private static void partsMustBeThere() {
        Due.sentence("Terms", "parts that it names must be there by then.");
        for (String word : WORDS) {
            if (!word.equals("part")) {
                reads(word, -1);
                reads(word + " 0 1 1 part 0 1 part 0 1", -1);
            }
        }
        reads("part 0 1 cover 0 1 part 0 1", -10);
        reads("part 0 1 part 0 1 cover 0 1", 2);
        reads("part 0 1 hazard 1 0 part 0 1", -17);
        reads(TWO + "hazard 2 0 part 0 1", -26);
        reads(TWO + "part 0 1 hazard 2 0", 3);
        reads(TWO + "way 0 0 2 part 0 1", -27);
        reads(TWO + "fasten 0 2 0 part 0 1", -28);
        PartGraphs graphs = Told.byCalls(TEN);
        Due.same("read(): parts of the old product are not there", -1, Told.read(graphs, "hazard 0 0"));
    }

    private static void noSuchWord() {
        Due.sentence("Terms", "A word CAN'T STAND where it does if it is no such word or number,");
        for (String word : WORDS) {
            String cut = word.substring(0, word.length() - 1);
            for (String no : new String[] {cut, word + "s", word.toUpperCase(), word.substring(1), word + "\t",
                word + "0", "x" + word.substring(1), cut + (char) (word.charAt(word.length() - 1) + 1),
                "x" + word}) {
                reads(TWO + no + " 0 1 1", -19);
            }
            reads(TWO + word + " " + word + " 1 1", -1 - (TWO.length() + word.length() + 1));
            reads(TWO + word + " 0 x 1", -1 - (TWO.length() + word.length() + 3));
        }
        for (String no : new String[] {"0", "1", "9", "unit", "read", "ring", "before", "write", "loose", "-", "\u0000"}) {
            reads(TWO + no, -19);
        }
        for (String no : new String[] {"-0", "+0", "-1", "0x0", "0.0", "1e0", "o", "'0'", "\u00b2", "\u00ff", "0\r"}) {
            reads("part " + no + " 1", -6);
            reads("part 0 " + no, -8);
        }
    }

    private static void refusedWhateverComes() {
        Due.sentence("Terms", "or with it the call would be refused (or throw) whatever comes behind it in the sentence:");
        compareWithCalls(TWO + "cover 0 1 cover 1 0 ");
        compareWithCalls(Edges.parts(3) + "cover 0 1 cover 0 2 cover 1 0 ");
        compareWithCalls(TWO + "way 0 0 1 way 0 1 1 way 0 2 1 way 0 3 1 way 0 4 1 way 1 0 0 ");
        compareWithCalls(TWO + "way 0 0 1 way 0 1 1 way 0 2 1 way 0 3 1 way 0 4 1 way 0 5 1 way 1 2 0 ");
        compareWithCalls(TWO + "fasten 0 1 0 ".repeat(19));
        compareWithCalls(TWO + "fasten 0 1 0 ".repeat(20));
        String hazards = "";
        for (int h = 0; h < 8; h++) {
            hazards = hazards + "hazard 0 " + h + " ";
        }
        compareWithCalls("part 0 1 " + hazards);
        compareWithCalls(TWO + hazards);
        compareWithCalls(Edges.parts(9));
        compareWithCalls(TWO + "option 0 3 damage 0 3 ");
    }

    private static void refusedWhenTold() {
        Due.sentence("Terms", "of a sentence that is told whole and is refused, its last word.");
        reads("part 9 1000001", -8);
        reads(TWO + "cover 1 1", -27);
        reads(TWO + "way 1 5 1", -27);
        reads(TWO + "way 1 5 0 part 0 1 way 1 5 0", -1 - (TWO.length() + 27));
        reads(TWO + "fasten 1 0 4", -30);
        reads(TWO + "hazard 1 7 hazard 1 7", -39);
        reads(TWO + "option 1 3 option 1 3", -39);
        reads(TWO + "damage 1 4", -28);
        reads(TWO + "damage 1 3 damage 1 3", 2);
        reads(Edges.parts(3) + "cover 0 1 cover 0 1 x", -46);
    }

    private static void productsText() {
        Due.sentence("Terms", "THE PRODUCT'S TEXT: of all parts, by numbers: part;");
        tells("", "");
        tells("part 9 0 ", "part 9 0 ");
        tells("part 5 50 part 4 40 cover 0 1 part 3 30 ", "part 5 50 part 4 40 part 3 30 cover 0 1 ");
        StringBuilder ten = new StringBuilder();
        for (int part = 0; part < 10; part++) {
            ten.append("part ").append(9 - part).append(' ').append(part).append(' ');
        }
        tells(ten.toString(), ten.toString());
    }

    private static void productsTextOfAPart() {
        Due.sentence("Terms", "then for each part by numbers: cover for all that it covers, way by directions "
                + "and what bars it, hazard for its hazards, option, if it is in a family, damage, if it is above 0;");
        String three = Edges.parts(3);
        String first = "cover 0 1 cover 0 2 way 0 0 2 way 0 1 1 way 0 5 1 way 0 5 2 hazard 0 0 hazard 0 7 option 0 0 "
                + "damage 0 1 ";
        String last = "cover 2 0 cover 2 1 way 2 0 0 way 2 3 1 hazard 2 3 option 2 3 damage 2 3 ";
        tells(three + first + last, three + first + last);
        tells(three + last + first, three + first + last);
        tells(three + "damage 0 1 option 0 0 hazard 0 7 hazard 0 0 way 0 5 2 way 0 5 1 way 0 1 1 way 0 0 2 cover 0 2 "
                + "cover 0 1 ", three + first);
        tells(three + "damage 1 3 damage 1 0 ", three);
        tells(three + "damage 1 3 damage 1 1 ", three + "damage 1 1 ");
        tells(three + "option 1 0 option 1 3 ", three + "option 1 3 ");
    }

    private static void productsTextOfFastenings() {
        Due.sentence("Terms", "then fasten for all fastenings, by numbers.");
        String three = Edges.parts(3);
        tells(three + "fasten 2 1 3 fasten 0 1 0 fasten 2 1 3 damage 2 1 cover 0 1 ",
                three + "cover 0 1 damage 2 1 fasten 2 1 3 fasten 0 1 0 fasten 2 1 3 ");
        String twenty = TWO;
        for (int number = 0; number < 20; number++) {
            twenty = twenty + "fasten " + number % 2 + " " + (number + 1) % 2 + " " + number / 2 % 4 + " ";
        }
        tells(twenty, twenty);
        reads(twenty, 2);
    }

    private static void productsTextInDecimals() {
        Due.sentence("Terms", "All by numbers rising, in decimals, with one blank behind each word.");
        for (String grams : new String[] {"0", "1", "9", "10", "11", "99", "100", "101", "999", "1000", "9999", "10000",
            "10203", "99999", "100000", "999999", "1000000"}) {
            tells("part 0 " + grams + " ", "part 0 " + grams + " ");
        }
        for (int kind = 0; kind < 10; kind++) {
            tells("part " + kind + " 5 ", "part " + kind + " 5 ");
        }
        tells(TEN + "cover 0 9 cover 0 1 hazard 0 7 hazard 0 1 way 9 5 8 way 9 5 0 way 9 1 8 ",
                TEN + "cover 0 1 cover 0 9 hazard 0 1 hazard 0 7 way 9 1 8 way 9 5 0 way 9 5 8 ");
        PartGraphs graphs = new PartGraphs();
        Due.same("read() of other blanks and noughts", 1, Told.read(graphs, "part\n\n01  005\n"));
        Due.text("told back", "part 1 5 ", Told.textOf(graphs));
    }

    private static void refusedChangesNothing() {
        Due.sentence("Terms", "A call that is refused, or throws, changes nothing, where nothing else is said.");
        Edges.refused("a row of refused calls", Due.THROWS, x -> {
            x.part(10, 0);
            x.part(0, Long.MAX_VALUE);
            x.fasten(0, 0, 0);
            x.fasten(0, 1, 4);
            x.cover(0, 1);
            x.cover(4, 0);
            x.way(1, 0, 2);
            x.option(1, 2);
            x.option(1, 4);
            x.hazard(0, 7);
            x.hazard(0, 8);
            x.damage(2, 4);
            x.unit(256);
            return x.way(1, 6, 2);
        });
        for (int round = 0; round < 3; round++) {
            Edges.refused("weight(4)", Due.THROWS, x -> x.weight(4));
        }
        PartGraphs graphs = Told.byCalls(TWO);
        Due.refuses("way(0, 0, 2)", () -> graphs.way(0, 0, 2));
        graphs.part(0, 1);
        Due.yes("way(0, 0, 2), which threw before", graphs.way(0, 0, 2));
        Due.no("cover(0, 3)", graphs.cover(0, 3));
        graphs.part(0, 1);
        Due.yes("cover(0, 3), which was refused before", graphs.cover(0, 3));
        Due.text("the product", Edges.parts(4) + "cover 0 3 way 0 0 2 ", Told.textOf(graphs));
    }

    /** Every sentence and every beginning of one behind these: what the calls take, the text must take too. */
    private static void compareWithCalls(String base) {
        for (String word : WORDS) {
            boolean[] taken = takenByCalls(base, word);
            int size = Told.sizeOf(word);
            for (int all = 0; all < taken.length; all++) {
                String[] sentence = sentenceOf(word, size, all);
                compareBeginning(base, sentence, taken, all);
            }
        }
    }

    private static boolean[] takenByCalls(String base, String word) {
        int size = Told.sizeOf(word);
        boolean[] taken = new boolean[power(size - 1)];
        for (int all = 0; all < taken.length; all++) {
            taken[all] = Told.isTaken(Told.call(Told.byCalls(base), sentenceOf(word, size, all)));
        }
        return taken;
    }

    private static int power(int exponent) {
        return exponent == 0 ? 1 : NUMBERS * power(exponent - 1);
    }

    private static String[] sentenceOf(String word, int size, int all) {
        String[] sentence = new String[size];
        sentence[0] = word;
        int left = all;
        for (int i = size - 1; i > 0; i--) {
            sentence[i] = String.valueOf(left % NUMBERS);
            left = left / NUMBERS;
        }
        return sentence;
    }

    private static void compareBeginning(String base, String[] sentence, boolean[] taken, int all) {
        int numbers = sentence.length - 1;
        String begun = base;
        for (int given = 0; given <= numbers; given++) {
            // The sentences that begin like this one stand side by side in the row.
            int alike = power(numbers - given);
            int from = all / alike * alike;
            boolean some = false;
            for (int i = from; i < from + alike; i++) {
                some = some || taken[i];
            }
            int begin = begun.length();
            begun = begun + sentence[given] + " ";
            if (!some) {
                reads(base + String.join(" ", sentence), -1 - begin);
                reads(begun, -1 - begin);
                return;
            }
            // Of the sentences with the same beginning the first one stands for all.
            if (given < numbers && from == all) {
                reads(begun, -1 - begun.length());
            }
        }
        compareProducts(begun);
    }

    private static void compareProducts(String sentences) {
        PartGraphs byText = new PartGraphs();
        PartGraphs byCalls = Told.byCalls(sentences);
        int parts = Collections.frequency(List.of(sentences.split(" ")), "part");
        Due.same("read() of '" + sentences + "'", parts, Told.read(byText, sentences));
        Due.same("loose() of '" + sentences + "'", byCalls.loose(), byText.loose());
        // An object has 512 calls: in and out again takes one a byte, twice.
        if (sentences.length() > 250) {
            return;
        }
        Due.text("the product of '" + sentences + "'", Told.textOf(byCalls), Told.textOf(byText));
    }
}
