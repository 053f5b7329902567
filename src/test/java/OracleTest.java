import java.util.Random;

/** Random runs of calls, the same ones each time, whose answers must be those of the oracle. */
public final class OracleTest {
    private static final int RUNS = 2000;
    // What later calls answer is free; the last ones of a run are for the product's text.
    private static final int MOST_CALLS = 512;
    private static final int FIRST_CALLS = 300;
    private static final int[] WILD = {-1, -2, 10, 11, 20, 31, 32, 33, 64, 255, 256, 1000, 1000000, 1000001,
        Integer.MIN_VALUE, Integer.MIN_VALUE + 1, Integer.MAX_VALUE};
    private static final String[] WORDS = {"part", "cover", "way", "fasten", "hazard", "option", "damage"};
    private static final String[] ODD = {"parts", "Way", "", "x", "-1", "+1", "0000000001", "000000001", "10",
        "1000000", "1000001", "999999999", "\t", "\r", "\u00ff", "1x", "cover0"};

    private final Random random;
    private final int small;
    private final PartGraphs graphs = new PartGraphs();
    private final Oracle oracle = new Oracle();
    private int calls = 0;

    private OracleTest(int seed) {
        random = new Random(seed);
        small = 2 + random.nextInt(9);
    }

    public static void main(String[] args) {
        for (int seed = 0; seed < RUNS; seed++) {
            new OracleTest(seed).run(seed);
        }
        Due.end();
    }

    private void run(int seed) {
        boolean byText = seed % 2 == 0;
        while (calls < FIRST_CALLS) {
            int pick = random.nextInt(100);
            if (byText && pick < 3) {
                tellText();
            } else if (pick < 60) {
                change(random.nextInt(8));
            } else {
                ask(random.nextInt(11));
            }
        }
        compareText();
    }

    /** Mostly a number that may be, at times one that can't. */
    private int number(int below) {
        return random.nextInt(40) == 0 ? WILD[random.nextInt(WILD.length)] : random.nextInt(below);
    }

    private void check(String call, Due.Call due, Due.Call got) {
        calls++;
        Due.compare(call, Due.answerOf(due), Due.answerOf(got));
    }

    private void change(int which) {
        int a = number(small);
        int b = number(small);
        int c = number(4);
        switch (which) {
            case 0 -> {
                int kind = number(3) % 3;
                long grams = random.nextInt(4) == 0 ? number(1000001) : random.nextInt(2);
                check("part", () -> oracle.part(kind, grams), () -> graphs.part(kind, grams));
            }
            case 1 -> check("fasten", () -> oracle.fasten(a, b, c), () -> graphs.fasten(a, b, c));
            case 2 -> check("cover", () -> oracle.cover(a, b), () -> graphs.cover(a, b));
            case 3, 4 -> barWays(a, b);
            case 5 -> check("option", () -> oracle.option(a, c), () -> graphs.option(a, c));
            case 6 -> {
                int h = number(8);
                check("hazard", () -> oracle.hazard(a, h), () -> graphs.hazard(a, h));
            }
            default -> check("damage", () -> oracle.damage(a, c), () -> graphs.damage(a, c));
        }
    }

    /** One direction alone would seldom make a part that is not free, so at times it is all of them. */
    private void barWays(int part, int other) {
        if (random.nextInt(4) == 0) {
            for (int d = 0; d < 6; d++) {
                int direction = d;
                check("way", () -> oracle.way(part, direction, other), () -> graphs.way(part, direction, other));
            }
        } else {
            int direction = number(6);
            check("way", () -> oracle.way(part, direction, other), () -> graphs.way(part, direction, other));
        }
    }

    private void ask(int which) {
        int a = number(small);
        int b = number(small);
        int k = number(4);
        long off = random.nextInt(20) == 0 ? random.nextLong() : random.nextInt(1024);
        switch (which) {
            case 0 -> check("before", () -> oracle.before(a, k), () -> graphs.before(a, k));
            case 1 -> check("ring", () -> oracle.ring(k), () -> graphs.ring(k));
            case 2 -> {
                int choice = number(12);
                check("family", () -> oracle.family(choice, k), () -> graphs.family(choice, k));
            }
            case 3 -> check("holds", () -> oracle.holds(a, b, 0), () -> graphs.holds(a, b, 0));
            case 4 -> check("holds", () -> oracle.holds(a, b, (int) off), () -> graphs.holds(a, b, (int) off));
            case 5 -> check("alike", () -> oracle.alike(a, k), () -> graphs.alike(a, k));
            case 6 -> check("weight", () -> oracle.weight(a), () -> graphs.weight(a));
            case 7 -> check("free", () -> oracle.free(a, off), () -> graphs.free(a, off));
            case 8 -> check("plain", () -> oracle.plain(a, off), () -> graphs.plain(a, off));
            case 9 -> {
                int i = number(600);
                check("write", () -> oracle.write(i), () -> graphs.write(i));
            }
            default -> check("loose", oracle::loose, graphs::loose);
        }
    }

    private void tellText() {
        String text = someText();
        if (calls + text.length() > MOST_CALLS - 50) {
            return;
        }
        for (int i = 0; i < text.length(); i++) {
            int u = text.charAt(i);
            check("unit", () -> oracle.unit(u), () -> graphs.unit(u));
        }
        check("read of '" + text + "'", oracle::read, graphs::read);
    }

    private String someText() {
        StringBuilder text = new StringBuilder();
        int parts = random.nextInt(5);
        for (int part = 0; part < parts; part++) {
            text.append("part ").append(random.nextInt(2)).append(' ').append(random.nextInt(2)).append(blanks());
        }
        int sentences = random.nextInt(14);
        for (int sentence = 0; sentence < sentences; sentence++) {
            String word = WORDS[random.nextInt(WORDS.length)];
            int numbers = word.equals("way") || word.equals("fasten") ? 3 : 2;
            text.append(odd(word)).append(blanks());
            for (int i = 0; i < numbers; i++) {
                text.append(odd(String.valueOf(random.nextInt(Math.max(parts, 2))))).append(blanks());
            }
        }
        if (random.nextInt(6) == 0 && text.length() > 0) {
            text.setLength(random.nextInt(text.length()));
        }
        return text.toString();
    }

    private String odd(String word) {
        return random.nextInt(80) == 0 ? ODD[random.nextInt(ODD.length)] : word;
    }

    private String blanks() {
        int pick = random.nextInt(12);
        return pick == 0 ? "\n" : pick == 1 ? "  " : pick == 2 ? " \n" : " ";
    }

    private void compareText() {
        int length = oracle.told().length();
        check("write(" + length + ")", () -> oracle.write(length), () -> graphs.write(length));
        for (int i = length - 1; i >= 0 && calls < MOST_CALLS; i--) {
            int at = i;
            check("write(" + at + ")", () -> oracle.write(at), () -> graphs.write(at));
        }
    }
}
