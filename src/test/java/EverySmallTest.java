/** Every product and every text of a small kind, compared with the oracle: what random runs might pass by. */
public final class EverySmallTest {
    private static final String[] WORDS = {"part", "cover", "way", "fasten", "hazard", "option", "damage",
        "0", "1", "2", "3", "7", "x"};
    private static final int DIRECTIONS = 6;
    private static final int FAMILIES = 4;

    private PartGraphs graphs = new PartGraphs();
    private Oracle oracle = new Oracle();

    public static void main(String[] args) {
        EverySmallTest test = new EverySmallTest();
        test.textsBehind("", 3);
        test.textsBehind("part 1 1 ", 3);
        test.textsBehind("part 1 1 part 1 1 ", 4);
        test.textsBehind("part 1 1 part 1 1 cover 0 1 ", 3);
        test.coversAndBars();
        test.fastenings();
        test.families();
        Due.end();
    }

    private void begin(int parts) {
        graphs = new PartGraphs();
        oracle = new Oracle();
        for (int part = 0; part < parts; part++) {
            Due.same("part", oracle.part(1, 1 << part), graphs.part(1, 1 << part));
        }
    }

    /** All rows of words, up to so many, behind the text. */
    private void textsBehind(String text, int more) {
        compareText(text);
        for (String word : WORDS) {
            if (more > 0) {
                textsBehind(text + word + " ", more - 1);
            }
        }
    }

    private void compareText(String text) {
        begin(0);
        for (int i = 0; i < text.length(); i++) {
            graphs.unit(text.charAt(i));
            oracle.unit(text.charAt(i));
        }
        Due.same("read of '" + text + "'", oracle.read(), graphs.read());
        Due.text("text behind '" + text + "'", oracle.told(), Told.textOf(graphs));
    }

    /** Of three parts: every set of covers with every set of bars that are in all directions. */
    private void coversAndBars() {
        int pairs = 3 * 2;
        for (int product = 0; product < 1 << pairs * 2; product++) {
            begin(3);
            int bit = 0;
            for (int a = 0; a < 3; a++) {
                for (int b = 0; b < 3; b++) {
                    if (a != b) {
                        coverAndBar(a, b, product >> bit, product >> bit + pairs);
                        bit++;
                    }
                }
            }
            askWhatComesOff("covers and bars " + product);
        }
    }

    private void coverAndBar(int a, int b, int covers, int bars) {
        if (covers % 2 != 0) {
            Due.compare("cover", oracle.cover(a, b), graphs.cover(a, b));
        }
        for (int direction = 0; direction < DIRECTIONS && bars % 2 != 0; direction++) {
            Due.compare("way", oracle.way(a, direction, b), graphs.way(a, direction, b));
        }
    }

    private void askWhatComesOff(String product) {
        for (int part = -1; part <= 3; part++) {
            Due.same(product + ": ring", oracle.ring(part), graphs.ring(part));
            for (int k = -1; k <= 3; k++) {
                Due.same(product + ": before", oracle.before(part, k), graphs.before(part, k));
            }
            for (int off = 0; off < 16; off++) {
                Due.compare(product + ": free", oracle.free(part, off), graphs.free(part, off));
                Due.compare(product + ": plain", oracle.plain(part, off), graphs.plain(part, off));
            }
        }
    }

    /** Of four parts: every set of fastenings, each way round, with every set of parts that are off. */
    private void fastenings() {
        for (int product = 0; product < 1 << 12; product++) {
            begin(4);
            int bit = 0;
            for (int pair = 0; pair < 16; pair++) {
                if (pair / 4 != pair % 4) {
                    fastenIf(product >> bit, pair / 4, pair % 4, bit % 4);
                    bit++;
                }
            }
            Due.same("fastenings " + product + ": loose", oracle.loose(), graphs.loose());
            for (int part = 0; part < 4; part++) {
                Due.same("fastenings " + product + ": weight", oracle.weight(part), graphs.weight(part));
            }
            for (int pairAndOff = 0; pairAndOff < 256; pairAndOff++) {
                int a = pairAndOff / 4 % 4;
                int b = pairAndOff % 4;
                int off = pairAndOff / 16;
                Due.compare("fastenings " + product + ": holds", oracle.holds(a, b, off), graphs.holds(a, b, off));
            }
        }
    }

    private void fastenIf(int bits, int a, int b, int kind) {
        if (bits % 2 != 0) {
            Due.same("fasten", oracle.fasten(a, b, kind), graphs.fasten(a, b, kind));
        }
    }

    /** Five parts in every way in families or in none. */
    private void families() {
        for (int product = 0; product < 5 * 5 * 5 * 5 * 5; product++) {
            begin(5);
            int left = product;
            for (int part = 0; part < 5; part++) {
                int family = left % (FAMILIES + 1);
                Due.compare("option", oracle.option(part, family), graphs.option(part, family));
                left /= FAMILIES + 1;
            }
            // The most that five parts can make are 2 * 3 variants.
            for (int choice = -1; choice <= 7; choice++) {
                for (int k = -1; k <= 5; k++) {
                    Due.same("families " + product, oracle.family(choice, k), graphs.family(choice, k));
                }
            }
        }
    }
}
