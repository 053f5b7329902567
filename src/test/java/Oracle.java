import java.util.ArrayDeque;
import java.util.ArrayList;
import java.util.HashSet;
import java.util.List;
import java.util.Set;
import java.util.TreeSet;
import java.util.function.IntPredicate;

/** The document's promises once more, in the slowest and most literal way, to compare answers with. */
final class Oracle {
    private static final List<String> WORDS =
            List.of("part", "cover", "way", "fasten", "hazard", "option", "damage");

    private static final class Part {
        int kind;
        long grams;
        int damage;
        int family = -1;
        TreeSet<Integer> hazards = new TreeSet<>();
    }

    private List<Part> parts = new ArrayList<>();
    private TreeSet<String> covers = new TreeSet<>();
    private TreeSet<String> ways = new TreeSet<>();
    private List<int[]> fastenings = new ArrayList<>();
    private final StringBuilder text = new StringBuilder();

    private boolean has(int part) {
        return part >= 0 && part < parts.size();
    }

    boolean unit(int u) {
        if (u < 0 || u > 255 || text.length() == 2000) {
            return false;
        }
        text.append((char) u);
        return true;
    }

    int part(int kind, long grams) {
        if (parts.size() == 10 || kind < 0 || kind > 9 || grams < 0 || grams > 1000000) {
            return -1;
        }
        Part part = new Part();
        part.kind = kind;
        part.grams = grams;
        parts.add(part);
        return parts.size() - 1;
    }

    int fasten(int a, int b, int kind) {
        if (fastenings.size() == 20 || !has(a) || !has(b) || a == b || kind < 0 || kind > 3) {
            return -1;
        }
        fastenings.add(new int[] {a, b, kind});
        return fastenings.size() - 1;
    }

    boolean cover(int over, int under) {
        return has(over) && has(under) && over != under && covers.add(over + " " + under);
    }

    boolean way(int part, int direction, int other) {
        if (!has(part) || !has(other) || direction < 0 || direction > 5) {
            throw new ArrayIndexOutOfBoundsException();
        }
        return part != other && ways.add(part + " " + direction + " " + other);
    }

    boolean option(int part, int family) {
        if (!has(part) || family < 0 || family > 3 || parts.get(part).family == family) {
            return false;
        }
        parts.get(part).family = family;
        return true;
    }

    boolean hazard(int part, int h) {
        return has(part) && h >= 0 && h <= 7 && parts.get(part).hazards.add(h);
    }

    int damage(int part, int state) {
        if (!has(part) || state < 0 || state > 3) {
            return -1;
        }
        int was = parts.get(part).damage;
        parts.get(part).damage = state;
        return was;
    }

    private static boolean isOff(long set, int part) {
        return set / (1L << part) % 2 != 0;
    }

    boolean plain(int part, long freedBits) {
        long off = freedBits & 1023;
        if (!has(part) || isOff(off, part)) {
            return false;
        }
        for (int over = 0; over < parts.size(); over++) {
            if (covers.contains(over + " " + part) && !isOff(off, over)) {
                return false;
            }
        }
        return true;
    }

    boolean free(int part, long freedBits) {
        long off = freedBits & 1023;
        if (!plain(part, off)) {
            return false;
        }
        boolean some = false;
        for (int direction = 0; direction < 6; direction++) {
            boolean barred = false;
            for (int other = 0; other < parts.size(); other++) {
                barred |= ways.contains(part + " " + direction + " " + other) && !isOff(off, other);
            }
            some |= !barred;
        }
        return some;
    }

    /** Goes through every set of parts that can be off at once. */
    private boolean can(int part, int never) {
        Set<Long> seen = new HashSet<>();
        ArrayDeque<Long> open = new ArrayDeque<>();
        open.add(0L);
        while (!open.isEmpty()) {
            long off = open.poll();
            for (int next = 0; next < parts.size(); next++) {
                if (next != never && free(next, off)) {
                    if (next == part) {
                        return true;
                    }
                    if (seen.add(off + (1L << next))) {
                        open.add(off + (1L << next));
                    }
                }
            }
        }
        return false;
    }

    private int kth(int k, IntPredicate belongs) {
        List<Integer> row = new ArrayList<>();
        for (int part = 0; part < parts.size(); part++) {
            if (belongs.test(part)) {
                row.add(part);
            }
        }
        return k >= 0 && k < row.size() ? row.get(k) : -1;
    }

    int before(int part, int k) {
        if (!has(part) || !can(part, -1)) {
            return -1;
        }
        return kth(k, other -> other != part && !can(part, other));
    }

    int ring(int k) {
        return kth(k, part -> !can(part, -1));
    }

    int family(int choice, int k) {
        List<TreeSet<Integer>> variants = new ArrayList<>();
        variants.add(new TreeSet<>());
        for (int part = 0; part < parts.size(); part++) {
            if (parts.get(part).family == -1) {
                variants.get(0).add(part);
            }
        }
        for (int family = 0; family < 4; family++) {
            List<TreeSet<Integer>> longer = new ArrayList<>();
            for (TreeSet<Integer> variant : variants) {
                for (int part = 0; part < parts.size(); part++) {
                    if (parts.get(part).family == family) {
                        TreeSet<Integer> more = new TreeSet<>(variant);
                        more.add(part);
                        longer.add(more);
                    }
                }
            }
            variants = longer.isEmpty() ? variants : longer;
        }
        if (choice < 0 || choice >= variants.size()) {
            return -1;
        }
        TreeSet<Integer> chosen = variants.get(choice);
        return kth(k, chosen::contains);
    }

    private TreeSet<Integer> hanging(int part, long off, TreeSet<Integer> seen) {
        if (has(part) && !isOff(off & 1023, part) && seen.add(part)) {
            for (int[] fastening : fastenings) {
                if (fastening[0] == part) {
                    hanging(fastening[1], off, seen);
                }
                if (fastening[1] == part) {
                    hanging(fastening[0], off, seen);
                }
            }
        }
        return seen;
    }

    boolean holds(int a, int b, int freed) {
        return hanging(a, freed, new TreeSet<>()).contains(b);
    }

    int alike(int other, int k) {
        if (!has(other)) {
            return -1;
        }
        Part one = parts.get(other);
        return kth(k, part -> part != other && parts.get(part).kind == one.kind
                && parts.get(part).grams == one.grams && parts.get(part).hazards.equals(one.hazards));
    }

    long weight(int part) {
        if (!has(part)) {
            throw new ArrayIndexOutOfBoundsException();
        }
        return hanging(part, 0, new TreeSet<>()).stream().mapToLong(p -> parts.get(p).grams).sum();
    }

    int loose() {
        Set<TreeSet<Integer>> pieces = new HashSet<>();
        for (int part = 0; part < parts.size(); part++) {
            pieces.add(hanging(part, 0, new TreeSet<>()));
        }
        return pieces.size();
    }

    String told() {
        StringBuilder told = new StringBuilder();
        for (Part part : parts) {
            told.append("part ").append(part.kind).append(' ').append(part.grams).append(' ');
        }
        // All that the rows hold are single digits, so they are sorted by numbers as they are by letters.
        for (int p = 0; p < parts.size(); p++) {
            Part part = parts.get(p);
            tellRow(told, "cover ", covers, p);
            tellRow(told, "way ", ways, p);
            for (int h : part.hazards) {
                told.append("hazard ").append(p).append(' ').append(h).append(' ');
            }
            if (part.family != -1) {
                told.append("option ").append(p).append(' ').append(part.family).append(' ');
            }
            if (part.damage != 0) {
                told.append("damage ").append(p).append(' ').append(part.damage).append(' ');
            }
        }
        for (int[] f : fastenings) {
            told.append("fasten ").append(f[0]).append(' ').append(f[1]).append(' ').append(f[2]).append(' ');
        }
        return told.toString();
    }

    private static void tellRow(StringBuilder told, String word, TreeSet<String> row, int part) {
        for (String numbers : row) {
            if (numbers.startsWith(part + " ")) {
                told.append(word).append(numbers).append(' ');
            }
        }
    }

    int write(int i) {
        String told = told();
        return i >= 0 && i < told.length() ? told.charAt(i) : -1;
    }

    int read() {
        String all = text.toString();
        text.setLength(0);
        Oracle fresh = new Oracle();
        int where = fresh.readWords(all);
        if (where >= 0) {
            return -1 - where;
        }
        parts = fresh.parts;
        covers = fresh.covers;
        ways = fresh.ways;
        fastenings = fresh.fastenings;
        return parts.size();
    }

    /** Where the first word begins that can't stand; -1 when there is none. */
    private int readWords(String all) {
        List<String> sentence = new ArrayList<>();
        int at = 0;
        for (String word : all.split("[ \n]", -1)) {
            if (!word.isEmpty()) {
                sentence.add(word);
                if (!isWhole(sentence) && !someEndServes(sentence)) {
                    return at;
                }
                if (isWhole(sentence)) {
                    if (!isNumber(word) || !doSentence(sentence)) {
                        return at;
                    }
                    sentence.clear();
                }
            }
            at += word.length() + 1;
        }
        return sentence.isEmpty() ? -1 : all.length();
    }

    private static boolean isNumber(String word) {
        return word.matches("[0-9]{1,9}");
    }

    private static boolean isWhole(List<String> sentence) {
        String word = sentence.get(0);
        return WORDS.contains(word) && sentence.size() == (word.equals("way") || word.equals("fasten") ? 4 : 3);
    }

    /** Tries every end, each on a copy of the product. */
    private boolean someEndServes(List<String> sentence) {
        if (!WORDS.contains(sentence.get(0))) {
            return false;
        }
        for (int i = 1; i < sentence.size(); i++) {
            if (!isNumber(sentence.get(i))) {
                return false;
            }
        }
        if (isWhole(sentence)) {
            return copy().doSentence(sentence);
        }
        for (int guess = 0; guess < 12; guess++) {
            List<String> longer = new ArrayList<>(sentence);
            longer.add(String.valueOf(guess));
            if (someEndServes(longer)) {
                return true;
            }
        }
        return false;
    }

    private Oracle copy() {
        Oracle copy = new Oracle();
        for (Part part : parts) {
            Part twin = new Part();
            twin.kind = part.kind;
            twin.grams = part.grams;
            twin.damage = part.damage;
            twin.family = part.family;
            twin.hazards.addAll(part.hazards);
            copy.parts.add(twin);
        }
        copy.covers.addAll(covers);
        copy.ways.addAll(ways);
        copy.fastenings.addAll(fastenings);
        return copy;
    }

    private boolean doSentence(List<String> sentence) {
        int[] n = new int[4];
        for (int i = 1; i < sentence.size(); i++) {
            n[i] = Integer.parseInt(sentence.get(i));
        }
        try {
            return switch (sentence.get(0)) {
                case "part" -> part(n[1], n[2]) >= 0;
                case "cover" -> cover(n[1], n[2]);
                case "way" -> way(n[1], n[2], n[3]);
                case "fasten" -> fasten(n[1], n[2], n[3]) >= 0;
                case "hazard" -> hazard(n[1], n[2]);
                case "option" -> option(n[1], n[2]);
                default -> damage(n[1], n[2]) >= 0;
            };
        } catch (ArrayIndexOutOfBoundsException refused) {
            return false;
        }
    }
}
