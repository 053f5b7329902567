/** Products as graphs of parts: what can come off, what must come off before, what hangs together. */
public final class PartGraphs {
    public static final int NONE = -1;

    private static final int PARTS = 10;
    private static final int KINDS = 10;
    private static final long MOST_GRAMS = 1000000L;
    private static final int DIRECTIONS = 6;
    private static final int FASTENINGS = 20;
    private static final int FASTENING_KINDS = 4;
    private static final int DAMAGES = 4;
    private static final int HAZARDS = 8;
    private static final int FAMILIES = 4;
    private static final int TEXT_BYTES = 2000;
    private static final int NUMBER_DIGITS = 9;
    private static final int SENTENCE_NUMBERS = 3;
    private static final int GUESSES = 10;
    private static final int BLANK = 32;
    private static final int LINE_END = 10;
    private static final Verb[] VERBS = Verb.values();

    private final Reader reader;
    private final Teller teller;
    private Product product;
    // The text is read into a second product, so that one that can't stand leaves the first as it was.
    private Product draft;

    public PartGraphs() {
        reader = new Reader();
        teller = new Teller();
        product = new Product();
        draft = new Product();
    }

    public boolean unit(int u) {
        return reader.take(u);
    }

    public int read() {
        draft.clear();
        boolean stands = reader.readAll(draft);
        int where = reader.wordBegin();
        reader.clear();
        if (!stands) {
            return -1 - where;
        }
        Product old = product;
        product = draft;
        draft = old;
        return product.partCount;
    }

    public int part(int kind, long grams) {
        return product.addPart(kind, grams);
    }

    public int fasten(int a, int b, int kind) {
        return product.addFastening(a, b, kind);
    }

    public boolean cover(int over, int under) {
        return product.addCover(over, under);
    }

    public boolean way(int part, int direction, int other) throws ArrayIndexOutOfBoundsException {
        if (!product.hasPart(part) || !product.hasPart(other) || !isBelow(direction, DIRECTIONS)) {
            throw new ArrayIndexOutOfBoundsException("no such part or direction");
        }
        return product.addBar(part, direction, other);
    }

    public int before(int part, int k) {
        return memberOf(product.mustComeOffBefore(part), k);
    }

    public int ring(int k) {
        return memberOf(product.neverComingOff(), k);
    }

    public boolean option(int part, int family) {
        return product.addOption(part, family);
    }

    public int family(int choice, int k) {
        return memberOf(product.variant(choice), k);
    }

    public boolean holds(int a, int b, int freed) {
        return product.hasPart(b) && contains(product.piece(a, freed), b);
    }

    public int alike(int other, int k) {
        return memberOf(product.partsLike(other), k);
    }

    public long weight(int part) throws ArrayIndexOutOfBoundsException {
        if (!product.hasPart(part)) {
            throw new ArrayIndexOutOfBoundsException("no such part");
        }
        return product.gramsOf(product.piece(part, 0));
    }

    public boolean hazard(int part, int h) {
        return product.addHazard(part, h);
    }

    public int damage(int part, int state) {
        return product.setDamage(part, state);
    }

    public boolean free(int part, long freedBits) {
        return product.isFree(part, lowBits(freedBits));
    }

    public boolean plain(int part, long freedBits) {
        return product.isPlain(part, lowBits(freedBits));
    }

    public int write(int i) {
        return teller.byteAt(product, i);
    }

    public int loose() {
        return product.pieces();
    }

    private static boolean isBelow(int number, int bound) {
        return number >= 0 && number < bound;
    }

    private static boolean contains(int set, int member) {
        return (set >> member & 1) != 0;
    }

    /** The k-th member of a set, by numbers; NONE when there is none such. */
    private static int memberOf(int set, int k) {
        int left = k;
        for (int member = 0; member < PARTS; member++) {
            if (contains(set, member)) {
                if (left == 0) {
                    return member;
                }
                left--;
            }
        }
        return NONE;
    }

    private static int lowBits(long freedBits) {
        return (int) (freedBits & ((1L << PARTS) - 1));
    }

    /** The words that begin a sentence, each with how many numbers come behind it. */
    private enum Verb {
        PART("part", 2),
        COVER("cover", 2),
        WAY("way", 3),
        FASTEN("fasten", 3),
        HAZARD("hazard", 2),
        OPTION("option", 2),
        DAMAGE("damage", 2);

        final String word;
        final int numbers;

        Verb(String word, int numbers) {
            this.word = word;
            this.numbers = numbers;
        }
    }

    /** The parts and all that is told of them; sets of parts are sums of 2^p. */
    private static final class Product {
        final int[] kinds;
        final long[] grams;
        final int[] coverers;
        final int[] bars;
        final int[] hazards;
        final int[] families;
        final int[] damages;
        final int[] firstEnds;
        final int[] secondEnds;
        final int[] fasteningKinds;
        int partCount;
        int fasteningCount;

        Product() {
            kinds = new int[PARTS];
            grams = new long[PARTS];
            coverers = new int[PARTS];
            bars = new int[PARTS * DIRECTIONS];
            hazards = new int[PARTS];
            families = new int[PARTS];
            damages = new int[PARTS];
            firstEnds = new int[FASTENINGS];
            secondEnds = new int[FASTENINGS];
            fasteningKinds = new int[FASTENINGS];
        }

        // The rows stay as they are: addPart and addFastening write theirs anew.
        void clear() {
            partCount = 0;
            fasteningCount = 0;
        }

        boolean hasPart(int part) {
            return part >= 0 && part < partCount;
        }

        private boolean areTwoParts(int a, int b) {
            return a >= 0 && a < partCount && b >= 0 && b < partCount && a != b;
        }

        private static int barIndex(int part, int direction) {
            return part * DIRECTIONS + direction;
        }

        private boolean allowsPart(int kind, long weight) {
            return partCount < PARTS && isBelow(kind, KINDS) && weight >= 0 && weight <= MOST_GRAMS;
        }

        int addPart(int kind, long weight) {
            if (!allowsPart(kind, weight)) {
                return NONE;
            }
            int part = partCount;
            kinds[part] = kind;
            grams[part] = weight;
            coverers[part] = 0;
            for (int direction = 0; direction < DIRECTIONS; direction++) {
                bars[barIndex(part, direction)] = 0;
            }
            hazards[part] = 0;
            families[part] = NONE;
            damages[part] = 0;
            partCount++;
            return part;
        }

        private boolean allowsFastening(int a, int b, int kind) {
            return fasteningCount < FASTENINGS && areTwoParts(a, b) && isBelow(kind, FASTENING_KINDS);
        }

        int addFastening(int a, int b, int kind) {
            if (!allowsFastening(a, b, kind)) {
                return NONE;
            }
            int fastening = fasteningCount;
            firstEnds[fastening] = a;
            secondEnds[fastening] = b;
            fasteningKinds[fastening] = kind;
            fasteningCount++;
            return fastening;
        }

        private boolean allowsCover(int over, int under) {
            return areTwoParts(over, under) && !contains(coverers[under], over);
        }

        boolean addCover(int over, int under) {
            if (!allowsCover(over, under)) {
                return false;
            }
            coverers[under] |= 1 << over;
            return true;
        }

        private boolean allowsBar(int part, int direction, int other) {
            return areTwoParts(part, other) && isBelow(direction, DIRECTIONS)
                    && !contains(bars[barIndex(part, direction)], other);
        }

        boolean addBar(int part, int direction, int other) {
            if (!allowsBar(part, direction, other)) {
                return false;
            }
            bars[barIndex(part, direction)] |= 1 << other;
            return true;
        }

        private boolean allowsHazard(int part, int h) {
            return hasPart(part) && isBelow(h, HAZARDS) && !contains(hazards[part], h);
        }

        boolean addHazard(int part, int h) {
            if (!allowsHazard(part, h)) {
                return false;
            }
            hazards[part] |= 1 << h;
            return true;
        }

        private boolean allowsOption(int part, int group) {
            return hasPart(part) && isBelow(group, FAMILIES) && families[part] != group;
        }

        boolean addOption(int part, int group) {
            if (!allowsOption(part, group)) {
                return false;
            }
            families[part] = group;
            return true;
        }

        private boolean allowsDamage(int part, int state) {
            return hasPart(part) && isBelow(state, DAMAGES);
        }

        int setDamage(int part, int state) {
            if (!allowsDamage(part, state)) {
                return NONE;
            }
            int old = damages[part];
            damages[part] = state;
            return old;
        }

        /** Whether the call that a sentence stands for would be taken. */
        boolean allows(Verb verb, int a, int b, int c) {
            switch (verb) {
                case PART:
                    return allowsPart(a, b);
                case COVER:
                    return allowsCover(a, b);
                case WAY:
                    return allowsBar(a, b, c);
                case FASTEN:
                    return allowsFastening(a, b, c);
                case HAZARD:
                    return allowsHazard(a, b);
                case OPTION:
                    return allowsOption(a, b);
                default:
                    return allowsDamage(a, b);
            }
        }

        /** Does what the call that a sentence stands for does. */
        void carryOut(Verb verb, int a, int b, int c) {
            switch (verb) {
                case PART:
                    addPart(a, b);
                    break;
                case COVER:
                    addCover(a, b);
                    break;
                case WAY:
                    addBar(a, b, c);
                    break;
                case FASTEN:
                    addFastening(a, b, c);
                    break;
                case HAZARD:
                    addHazard(a, b);
                    break;
                case OPTION:
                    addOption(a, b);
                    break;
                default:
                    setDamage(a, b);
                    break;
            }
        }

        boolean isPlain(int part, int off) {
            return hasPart(part) && !contains(off, part) && (coverers[part] & ~off) == 0;
        }

        boolean isFree(int part, int off) {
            if (!isPlain(part, off)) {
                return false;
            }
            for (int direction = 0; direction < DIRECTIONS; direction++) {
                if ((bars[barIndex(part, direction)] & ~off) == 0) {
                    return true;
                }
            }
            return false;
        }

        /**
         * All that come off when one (or NONE) is kept on. What is free stays free when more come off,
         * so taking off whatever is free, in any order, misses none.
         */
        private int comingOff(int kept) {
            int off = 0;
            for (int round = 0; round < PARTS; round++) {
                int old = off;
                for (int part = 0; part < partCount; part++) {
                    if (part != kept && isFree(part, off)) {
                        off |= 1 << part;
                    }
                }
                if (off == old) {
                    break;
                }
            }
            return off;
        }

        int neverComingOff() {
            return ((1 << partCount) - 1) & ~comingOff(NONE);
        }

        int mustComeOffBefore(int part) {
            int set = 0;
            if (!hasPart(part) || !contains(comingOff(NONE), part)) {
                return set;
            }
            for (int other = 0; other < partCount; other++) {
                if (other != part && !contains(comingOff(other), part)) {
                    set |= 1 << other;
                }
            }
            return set;
        }

        private int membersOf(int group) {
            int set = 0;
            for (int part = 0; part < partCount; part++) {
                if (families[part] == group) {
                    set |= 1 << part;
                }
            }
            return set;
        }

        /** The parts of a variant; no part at all when there is none such. */
        int variant(int choice) {
            if (choice < 0) {
                return 0;
            }
            int set = membersOf(NONE);
            int left = choice;
            // The first family weighs most in a variant's number, so the last one is split off first.
            for (int group = FAMILIES - 1; group >= 0; group--) {
                int members = membersOf(group);
                int size = Integer.bitCount(members);
                if (size > 0) {
                    set |= 1 << memberOf(members, left % size);
                    left = left / size;
                }
            }
            return left == 0 ? set : 0;
        }

        /** All that hangs together with a part; nothing when it is off or not there. */
        int piece(int part, int off) {
            if (!hasPart(part) || contains(off, part)) {
                return 0;
            }
            int set = 1 << part;
            for (int round = 0; round < PARTS; round++) {
                int old = set;
                for (int fastening = 0; fastening < fasteningCount; fastening++) {
                    int ends = 1 << firstEnds[fastening] | 1 << secondEnds[fastening];
                    if ((ends & off) == 0 && (ends & set) != 0) {
                        set |= ends;
                    }
                }
                if (set == old) {
                    break;
                }
            }
            return set;
        }

        int pieces() {
            int count = 0;
            int seen = 0;
            for (int part = 0; part < partCount; part++) {
                if (!contains(seen, part)) {
                    seen |= piece(part, 0);
                    count++;
                }
            }
            return count;
        }

        long gramsOf(int set) {
            long sum = 0;
            for (int part = 0; part < partCount; part++) {
                if (contains(set, part)) {
                    sum += grams[part];
                }
            }
            return sum;
        }

        int partsLike(int other) {
            int set = 0;
            if (!hasPart(other)) {
                return set;
            }
            for (int part = 0; part < partCount; part++) {
                if (part != other && kinds[part] == kinds[other] && grams[part] == grams[other]
                        && hazards[part] == hazards[other]) {
                    set |= 1 << part;
                }
            }
            return set;
        }

        int coveredBy(int over) {
            int set = 0;
            for (int under = 0; under < partCount; under++) {
                if (contains(coverers[under], over)) {
                    set |= 1 << under;
                }
            }
            return set;
        }
    }

    /** Gathers the text and reads it, word by word, into a product. */
    private static final class Reader {
        private final char[] text;
        private final int[] numbers;
        private int length;
        private int begin;
        private int end;

        Reader() {
            text = new char[TEXT_BYTES];
            numbers = new int[SENTENCE_NUMBERS];
        }

        boolean take(int u) {
            if (u < 0 || u > 255 || length >= TEXT_BYTES) {
                return false;
            }
            text[length] = (char) u;
            length++;
            return true;
        }

        void clear() {
            length = 0;
        }

        /** Where the word begins that was looked at last; how many bytes there are, if there was none. */
        int wordBegin() {
            return begin;
        }

        /** Whether every word can stand; if not, the word looked at last is the first that can't. */
        boolean readAll(Product draft) {
            begin = 0;
            end = 0;
            for (int sentence = 0; sentence < TEXT_BYTES; sentence++) {
                if (!findWord()) {
                    return true;
                }
                if (!readSentence(draft)) {
                    return false;
                }
            }
            return true;
        }

        private boolean readSentence(Product draft) {
            Verb verb = verbHere();
            if (verb == null || !canGoOn(draft, verb, 0)) {
                return false;
            }
            for (int given = 0; given < verb.numbers && given < SENTENCE_NUMBERS; given++) {
                if (!findWord()) {
                    return false;
                }
                int number = numberHere();
                if (number == NONE) {
                    return false;
                }
                numbers[given] = number;
                if (!canGoOn(draft, verb, given + 1)) {
                    return false;
                }
            }
            draft.carryOut(verb, numbers[0], numbers[1], numbers[2]);
            return true;
        }

        /**
         * Whether some numbers behind those given make the call go well. Guesses below ten are enough:
         * whatever a number may be, some such number serves as well as any.
         */
        private boolean canGoOn(Product draft, Verb verb, int given) {
            if (given >= verb.numbers || given >= SENTENCE_NUMBERS) {
                return draft.allows(verb, numbers[0], numbers[1], numbers[2]);
            }
            for (int guess = 0; guess < GUESSES; guess++) {
                numbers[given] = guess;
                if (canGoOn(draft, verb, given + 1)) {
                    return true;
                }
            }
            return false;
        }

        private boolean findWord() {
            begin = end;
            while (begin < length && isBlankAt(begin)) {
                begin++;
            }
            end = begin;
            while (end < length && !isBlankAt(end)) {
                end++;
            }
            return begin < end;
        }

        private boolean isBlankAt(int at) {
            return text[at] == BLANK || text[at] == LINE_END;
        }

        private Verb verbHere() {
            for (int i = 0; i < VERBS.length; i++) {
                if (isWordHere(VERBS[i].word)) {
                    return VERBS[i];
                }
            }
            return null;
        }

        private boolean isWordHere(String word) {
            if (word.length() != end - begin) {
                return false;
            }
            for (int i = 0; i < word.length(); i++) {
                if (text[begin + i] != word.charAt(i)) {
                    return false;
                }
            }
            return true;
        }

        /** The number that the word is; NONE when it is no number. */
        private int numberHere() {
            if (end - begin > NUMBER_DIGITS) {
                return NONE;
            }
            int number = 0;
            for (int at = begin; at < end; at++) {
                if (text[at] < '0' || text[at] > '9') {
                    return NONE;
                }
                number = number * 10 + (text[at] - '0');
            }
            return number;
        }
    }

    /** Tells a product's text up to the byte that is asked for, without keeping it. */
    private static final class Teller {
        // How many bytes are still to be told before the one asked for; below 0 behind it.
        private int left;
        private int found;

        int byteAt(Product product, int i) {
            if (i < 0) {
                return NONE;
            }
            left = i;
            found = NONE;
            tellParts(product);
            for (int part = 0; part < product.partCount && left >= 0; part++) {
                tellDetails(product, part);
            }
            tellFastenings(product);
            return found;
        }

        private void tellParts(Product product) {
            for (int part = 0; part < product.partCount && left >= 0; part++) {
                tellWord(Verb.PART);
                tellNumber(product.kinds[part]);
                tellNumber(product.grams[part]);
            }
        }

        private void tellDetails(Product product, int part) {
            tellEach(Verb.COVER, part, product.coveredBy(part));
            for (int direction = 0; direction < DIRECTIONS; direction++) {
                tellBars(part, direction, product.bars[Product.barIndex(part, direction)]);
            }
            tellEach(Verb.HAZARD, part, product.hazards[part]);
            if (product.families[part] != NONE) {
                tellPair(Verb.OPTION, part, product.families[part]);
            }
            if (product.damages[part] > 0) {
                tellPair(Verb.DAMAGE, part, product.damages[part]);
            }
        }

        private void tellFastenings(Product product) {
            for (int fastening = 0; fastening < product.fasteningCount && left >= 0; fastening++) {
                tellPair(Verb.FASTEN, product.firstEnds[fastening], product.secondEnds[fastening]);
                tellNumber(product.fasteningKinds[fastening]);
            }
        }

        private void tellBars(int part, int direction, int others) {
            for (int other = 0; other < PARTS; other++) {
                if (contains(others, other)) {
                    tellPair(Verb.WAY, part, direction);
                    tellNumber(other);
                }
            }
        }

        // A set of hazards is no larger than a set of parts, so one loop serves both.
        private void tellEach(Verb verb, int part, int set) {
            for (int member = 0; member < PARTS; member++) {
                if (contains(set, member)) {
                    tellPair(verb, part, member);
                }
            }
        }

        private void tellPair(Verb verb, int a, int b) {
            tellWord(verb);
            tellNumber(a);
            tellNumber(b);
        }

        private void tellWord(Verb verb) {
            for (int i = 0; i < verb.word.length(); i++) {
                tellByte(verb.word.charAt(i));
            }
            tellByte(BLANK);
        }

        private void tellNumber(long number) {
            long scale = 1;
            for (int digit = 1; digit < NUMBER_DIGITS && number / scale >= 10; digit++) {
                scale = scale * 10;
            }
            for (int digit = 0; digit < NUMBER_DIGITS && scale > 0; digit++) {
                tellByte('0' + (int) (number / scale % 10));
                scale = scale / 10;
            }
            tellByte(BLANK);
        }

        private void tellByte(int told) {
            if (left == 0) {
                found = told;
            }
            left--;
        }
    }
}
