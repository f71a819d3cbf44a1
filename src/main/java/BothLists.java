/**
 * A house for two lists that are met and not shown. What each call promises
 * stands in the project's document; README.md tells how to use the class.
 */
public final class BothLists {
    public static final int NONE = -1;
    public static final int RANGE = -2;
    public static final int FULL = -3;
    public static final int STATE = -4;

    private static final int NOT_SEEN = -9;

    private static final int SIDES = 2;
    private static final int KNOWN = 2;
    private static final int SPARE = 3;

    private static final int MOST_BYTES = 1200;
    private static final int MOST_WORDS = 40;
    private static final int MOST_KNOWN = 8;
    private static final int MOST_LINES = 30;
    private static final int MOST_CHANGES = 40;
    private static final int MOST_DOWRY = 9999;
    private static final int MOST_PADDED = 60;
    private static final int MOST_BITS = 62;
    private static final int MOST_THROWS = 6;
    private static final int MOST_JUDGED = 40;
    private static final int MOST_PARTS = 10000;
    private static final int LAST_DAY = 400;
    private static final int NEVER = LAST_DAY + 1;

    private static final int FIRST_PRIME = 101;
    private static final int LEAST_PRIME = 5;
    private static final int MOST_PRIME_TO_AGREE = 60;
    private static final int MOST_PRIME_OF_STRANGERS = 3000;
    private static final int MOST_PRIME_OF_UNLIKE = 100000;
    /** No number up to 2147483647 has a least factor above this one, unless it is a prime. */
    private static final int MOST_FACTOR = 46340;
    /** Euclid's steps for two numbers below 2^62 are fewer than this. */
    private static final int MOST_EUCLID = 200;

    private static final int LETTERS = 26;
    private static final int WORD_LETTERS = 10;
    private static final int NUMBER_DIGITS = 5;
    /** A word is held as one long, five bits a letter (a is 1), the last letter lowest. */
    private static final int LETTER_BITS = 5;
    private static final int LETTER_MASK = 31;
    private static final int TOP_SHIFT = LETTER_BITS * (WORD_LETTERS - 1);

    private static final int AT_END = 0;
    private static final int AT_WORD = 1;
    private static final int AT_NUMBER = 2;
    private static final int AT_SEMICOLON = 3;
    private static final int AT_OTHER = 4;

    private static final int FAULT_SYNTAX = 1;
    private static final int FAULT_RANGE = 2;
    private static final int FAULT_TWICE = 3;
    private static final int FAULT_ROOM = 4;
    private static final int FAULT_UNKNOWN = 5;
    private static final int FAULT_COUNTED = 6;

    private static final int POWER = 0;
    private static final int TIMES = 1;
    private static final int PLUS = 2;

    private static final int MAKES = 0;
    private static final int TURNS = 1;
    private static final int MIXES = 2;
    private static final int SENDS = 3;
    private static final int COUNTS = 4;
    private static final int PADS = 5;
    private static final int MEETS = 6;
    private static final int SUMS = 7;

    private static final int BAG_LETTERS = 8;
    private static final int BAGS = SIDES * BAG_LETTERS;
    /** Each line sends one bag at most: its size and its numbers. */
    private static final int MOST_SEEN = MOST_LINES * (MOST_PADDED + 1);

    private static final int OUT_ALONE = 0;
    private static final int OUT_PLACES = 1;
    private static final int OUT_SUM = 2;
    private static final int OUT_FIRST_PLACE = 10;

    private final Tape tape;
    private final Reader reader;
    private Speller speller;
    private Speller spareSpeller;
    /** LIST 0, LIST 1, THE KNOWN, and a spare one that the next text is read into. */
    private final Names[] names;
    private Way way;
    private Way spareWay;
    private int p;
    private final Turning[] turnings;
    private final int[] seeds;
    private final int[] numbers;
    private final Play done;
    private final Agreement[] agreements;
    private boolean ran;
    private int changes;
    private int latestDay;

    public BothLists() {
        tape = new Tape();
        reader = new Reader(tape);
        speller = new Speller();
        spareSpeller = new Speller();
        names = new Names[] {new Names(), new Names(), new Names(), new Names()};
        way = new Way();
        spareWay = new Way();
        p = FIRST_PRIME;
        turnings = new Turning[] {new Turning(), new Turning()};
        seeds = new int[] {1, 1};
        numbers = new int[MOST_WORDS];
        int[] seenByOne = new int[MOST_SEEN];
        int[] seenByTwo = new int[MOST_SEEN];
        done = new Play(new Hand(turnings[0], seenByOne, false), new Hand(turnings[1], seenByTwo, false));
        Play trial = new Play(new Hand(turnings[0], seenByOne, true), new Hand(turnings[1], seenByTwo, true));
        Turning guess = new Turning();
        agreements = new Agreement[] {new Agreement(trial, guess), new Agreement(trial, guess)};
        ran = false;
        changes = 0;
        latestDay = 0;
    }

    // ---- the tape

    public int feed(int a, int b, int c, int d, int e) {
        if (tape.length + 20 > MOST_BYTES) {
            return FULL;
        }
        tape.put(a);
        tape.put(b);
        tape.put(c);
        tape.put(d);
        tape.put(e);
        return tape.length;
    }

    public int end(int n) {
        if (n < 0 || n > tape.length) {
            return NONE;
        }
        tape.length = n;
        return n;
    }

    // ---- texts

    public int spelling() {
        boolean good = reader.readSpelling(spareSpeller);
        tape.length = 0;
        if (!good) {
            return NONE;
        }
        Speller old = speller;
        speller = spareSpeller;
        spareSpeller = old;
        for (int i = 0; i < names.length; i++) {
            names[i].clear();
        }
        forgetChanges();
        ran = false;
        return speller.clauses;
    }

    public int list(int side) {
        if (!isSide(side)) {
            tape.length = 0;
            return RANGE;
        }
        boolean good = reader.readList(names[SPARE], speller);
        tape.length = 0;
        if (!good) {
            return NONE;
        }
        takeSpare(side);
        forgetChanges();
        ran = false;
        return names[side].told;
    }

    public int known() {
        boolean good = reader.readKnown(names[SPARE], speller);
        tape.length = 0;
        if (!good) {
            return NONE;
        }
        takeSpare(KNOWN);
        forgetAgreements();
        return names[KNOWN].told;
    }

    public int way() {
        boolean good = reader.readWay(spareWay);
        tape.length = 0;
        if (!good) {
            return NONE;
        }
        Way old = way;
        way = spareWay;
        spareWay = old;
        ran = false;
        return way.lines;
    }

    public int fault(int what) {
        if (what == 0) {
            return reader.faultKind;
        }
        return what == 1 ? reader.faultPlace : NONE;
    }

    public int key(int i) {
        boolean good = reader.readWord();
        tape.length = 0;
        if (!good) {
            return NONE;
        }
        long key = speller.keyOf(reader.word);
        int letters = lettersOf(key);
        if (i == -1) {
            return letters;
        }
        if (i < 0 || i >= letters) {
            return NONE;
        }
        return 'a' - 1 + letterAt(key, LETTER_BITS * (letters - 1 - i));
    }

    // ---- numbers and turnings

    public int prime(int p) {
        if (p < LEAST_PRIME || !Arithmetic.isPrime(p)) {
            return RANGE;
        }
        this.p = p;
        for (int side = 0; side < SIDES; side++) {
            turnings[side].become(POWER, 1, p);
        }
        ran = false;
        return 1;
    }

    public int number(int side, int i) {
        if (side < 0 || side > KNOWN || i < 0 || i >= names[side].told) {
            return RANGE;
        }
        return numberOf(names[side].keys[i], p);
    }

    public int turning(int side, int kind, int k) {
        if (!isSide(side) || !Turning.allows(kind, k, p)) {
            return RANGE;
        }
        turnings[side].become(kind, k, p);
        ran = false;
        return 1;
    }

    public int turned(int side, int x, boolean back) {
        if (!isSide(side) || x < 1 || x >= p) {
            return RANGE;
        }
        return back ? turnings[side].undo(x) : turnings[side].apply(x);
    }

    public int fixed(int side) {
        return isSide(side) ? turnings[side].fixedNumbers() : RANGE;
    }

    public int unlike() {
        if (p > MOST_PRIME_OF_UNLIKE) {
            return STATE;
        }
        Turning one = turnings[0];
        Turning two = turnings[1];
        int last = Turning.lastToLookAt(one, two);
        for (int x = 1; x <= last; x++) {
            if (two.apply(one.apply(x)) != one.apply(two.apply(x))) {
                return x;
            }
        }
        return NONE;
    }

    public int seed(int side, int s) {
        if (!isSide(side) || s < 0) {
            return RANGE;
        }
        int old = seeds[side];
        seeds[side] = s;
        ran = false;
        return old;
    }

    // ---- the way

    public int run() {
        if (way.lines == 0) {
            return STATE;
        }
        for (int side = 0; side < SIDES; side++) {
            done.hands[side].load(names[side], seeds[side], p);
        }
        done.start(p);
        for (int line = 0; line < way.lines; line++) {
            done.doLine(way, line);
        }
        ran = true;
        forgetAgreements();
        return way.lines;
    }

    public int out(int side, int what) {
        if (!isSide(side)) {
            return RANGE;
        }
        if (!ran) {
            return STATE;
        }
        Hand hand = done.hands[side];
        if (what == 0) {
            return hand.outKind == NONE ? NONE : hand.outValue;
        }
        if (what == 1) {
            return hand.outKind;
        }
        if (what < OUT_FIRST_PLACE || hand.outKind != OUT_PLACES) {
            return NONE;
        }
        int place = what - OUT_FIRST_PLACE;
        return place < hand.listSize ? (int) (hand.outPlaces >>> place & 1) : NONE;
    }

    public int saw(int side, int i) {
        if (!isSide(side) || !ran) {
            return NOT_SEEN;
        }
        Hand hand = done.hands[side];
        if (i == -1) {
            return hand.seenSize;
        }
        return i < 0 || i >= hand.seenSize ? NOT_SEEN : hand.seen[i];
    }

    public int cost(int what) {
        if (what != 0 && what != 1) {
            return NONE;
        }
        if (!ran) {
            return STATE;
        }
        return what == 0 ? done.turnsDone : done.bytesSent;
    }

    public int agree(int side, int what) {
        if (!isSide(side) || what < 0 || what > 3) {
            return RANGE;
        }
        if (!ran || p > MOST_PRIME_TO_AGREE) {
            return STATE;
        }
        Agreement agreement = agreements[side];
        agreement.search(done, way, names[KNOWN], side);
        switch (what) {
            case 0:
                return agreement.agreeingLists();
            case 1:
                return agreement.pairs();
            case 2:
                return agreement.isEven() ? 1 : 0;
            default:
                return agreement.leastList();
        }
    }

    public int surely(int side, int i) {
        if (!isSide(side) || i < 0 || i >= names[KNOWN].told) {
            return RANGE;
        }
        if (!ran || p > MOST_PRIME_TO_AGREE) {
            return STATE;
        }
        Agreement agreement = agreements[side];
        agreement.search(done, way, names[KNOWN], side);
        int all = agreement.agreeingLists();
        if (all == 0) {
            return NONE;
        }
        int with = agreement.agreeingListsWith(i);
        if (with == all) {
            return 1;
        }
        return with == 0 ? 0 : 2;
    }

    public int read(int side) {
        if (!isSide(side)) {
            return RANGE;
        }
        if (!ran) {
            return STATE;
        }
        Names known = names[KNOWN];
        int bits = 0;
        for (int i = 0; i < known.told; i++) {
            if (isReadable(side, numberOf(known.keys[i], p))) {
                bits |= 1 << i;
            }
        }
        return bits;
    }

    // ---- rows of bits, names nearly alike

    public long thrown(int side, int m, int h) {
        if (!isSide(side) || !isRow(m, h)) {
            return RANGE;
        }
        return rowOf(numbersOf(side), m, h);
    }

    public int strangers(int side, int m, int h) {
        if (!isSide(side) || !isRow(m, h)) {
            return RANGE;
        }
        if (p > MOST_PRIME_OF_STRANGERS) {
            return STATE;
        }
        int many = numbersOf(side);
        return seemingIn(rowOf(many, m, h), m, h) - differentNumbers(many);
    }

    public int cheapest(int side, int most) {
        if (!isSide(side) || most < 0) {
            return RANGE;
        }
        if (p > MOST_PRIME_OF_STRANGERS) {
            return STATE;
        }
        int many = numbersOf(side);
        int own = differentNumbers(many);
        for (int m = 1; m <= MOST_BITS; m++) {
            for (int h = 1; h <= MOST_THROWS; h++) {
                if (seemingIn(rowOf(many, m, h), m, h) - own <= most) {
                    return 10 * m + h;
                }
            }
        }
        return NONE;
    }

    public int near() {
        Names one = names[0];
        Names two = names[1];
        int pairs = 0;
        for (int i = 0; i < one.told; i++) {
            for (int j = 0; j < two.told; j++) {
                if (one.keys[i] == two.keys[j] && one.words[i] != two.words[j]) {
                    pairs++;
                }
            }
        }
        return pairs;
    }

    // ---- days

    public int comes(int side, int day) {
        boolean good = reader.readNewcomer();
        tape.length = 0;
        if (!isSide(side) || !isNextDay(day)) {
            return RANGE;
        }
        if (!good) {
            return NONE;
        }
        Names list = names[side];
        long key = speller.keyOf(reader.word);
        if (list.find(key, day) != NONE) {
            return NONE;
        }
        if (changes >= MOST_CHANGES || list.sizeAt(day) >= MOST_WORDS) {
            return FULL;
        }
        list.add(reader.word, key, reader.dowry, day);
        return countChange(day);
    }

    public int goes(int side, int day) {
        boolean good = reader.readWord();
        tape.length = 0;
        if (!isSide(side) || !isNextDay(day)) {
            return RANGE;
        }
        if (!good) {
            return NONE;
        }
        Names list = names[side];
        int place = list.find(speller.keyOf(reader.word), day);
        if (place == NONE) {
            return NONE;
        }
        if (changes >= MOST_CHANGES) {
            return FULL;
        }
        list.gone[place] = day;
        return countChange(day);
    }

    public int both(int day) {
        if (!isDay(day)) {
            return RANGE;
        }
        Names one = names[0];
        int onBoth = 0;
        for (int i = 0; i < one.all; i++) {
            if (one.isOn(i, day) && names[1].find(one.keys[i], day) != NONE) {
                onBoth++;
            }
        }
        return onBoth;
    }

    public int size(int side, int day, int what) {
        if (!isSide(side) || !isDay(day) || what < 0 || what > 1) {
            return RANGE;
        }
        return what == 0 ? names[side].sizeAt(day) : names[side].dowriesAt(day);
    }

    // ---- a judge

    public long caught(int n, int f, int c, int what) {
        if (!isLot(n, f) || c < 0 || c > n || what < 0 || what > 1) {
            return RANGE;
        }
        long all = Arithmetic.choose(n, c);
        long hit = all - Arithmetic.choose(n - f, c);
        long common = Arithmetic.commonFactor(hit, all);
        if (common < 1) {
            return RANGE;
        }
        return (what == 0 ? hit : all) / common;
    }

    public int opened(int n, int f, int a, int b) {
        if (!isLot(n, f) || b < 1 || b > MOST_PARTS || a < 0 || a > b) {
            return RANGE;
        }
        for (int c = 0; c <= n; c++) {
            long all = Arithmetic.choose(n, c);
            long hit = all - Arithmetic.choose(n - f, c);
            if (hit * b >= all * a) {
                return c;
            }
        }
        return NONE;
    }

    public int count(int what) {
        switch (what) {
            case 0:
            case 1:
            case KNOWN:
                return names[what].told;
            case 3:
                return way.lines;
            case 4:
                return speller.clauses;
            case 5:
                return p;
            case 6:
                return changes;
            case 7:
                return tape.length;
            default:
                return NONE;
        }
    }

    // ---- inside

    private static boolean isSide(int side) {
        return side == 0 || side == 1;
    }

    private static boolean isDay(int day) {
        return day >= 0 && day <= LAST_DAY;
    }

    private boolean isNextDay(int day) {
        return day >= latestDay && day <= LAST_DAY;
    }

    private static boolean isRow(int m, int h) {
        return m >= 1 && m <= MOST_BITS && h >= 1 && h <= MOST_THROWS;
    }

    private static boolean isLot(int n, int f) {
        return n >= 1 && n <= MOST_JUDGED && f >= 0 && f <= n;
    }

    private static int letterAt(long word, int shift) {
        return (int) (word >>> shift) & LETTER_MASK;
    }

    private static int lettersOf(long word) {
        int letters = 0;
        for (int shift = TOP_SHIFT; shift >= 0; shift -= LETTER_BITS) {
            if (letterAt(word, shift) != 0) {
                letters++;
            }
        }
        return letters;
    }

    private static int numberOf(long key, int p) {
        if (p < LEAST_PRIME) {
            return 1;
        }
        long v = 7 % (p - 1);
        for (int shift = TOP_SHIFT; shift >= 0; shift -= LETTER_BITS) {
            int letter = letterAt(key, shift);
            if (letter != 0) {
                v = (31 * v + letter) % (p - 1);
            }
        }
        return 1 + (int) v;
    }

    private void takeSpare(int place) {
        Names old = names[place];
        names[place] = names[SPARE];
        names[SPARE] = old;
    }

    private void forgetChanges() {
        for (int side = 0; side < SIDES; side++) {
            names[side].forgetChanges();
        }
        changes = 0;
        latestDay = 0;
    }

    private int countChange(int day) {
        latestDay = day;
        changes++;
        return changes;
    }

    private void forgetAgreements() {
        for (int side = 0; side < SIDES; side++) {
            agreements[side].fresh = false;
        }
    }

    /** What a side saw is just what the other side sent. */
    private boolean isReadable(int side, int x) {
        Hand hand = done.hands[side];
        Turning turning = turnings[side];
        int once = turning.apply(x);
        return hand.hasSeen(x) || hand.hasSeen(once) || hand.hasSeen(turning.apply(once));
    }

    private static long bitsOf(int x, int m, int h) {
        long bits = 0;
        for (int j = 0; j < h && m > 0; j++) {
            bits |= 1L << (int) (((long) x * (2 * j + 3) + j) % m);
        }
        return bits;
    }

    /** Puts the NUMBERS of a LIST into the row kept for them, and tells how many there are. */
    private int numbersOf(int side) {
        Names list = names[side];
        int many = 0;
        for (int i = 0; i < list.told && i < MOST_WORDS; i++) {
            numbers[i] = numberOf(list.keys[i], p);
            many++;
        }
        return many;
    }

    private long rowOf(int many, int m, int h) {
        long row = 0;
        for (int i = 0; i < many; i++) {
            row |= bitsOf(numbers[i], m, h);
        }
        return row;
    }

    /** Numbers that leave the same rest by m throw the same bits, so one of each rest is looked at. */
    private int seemingIn(long row, int m, int h) {
        int in = 0;
        for (int x = 1; x <= m && x < p; x++) {
            if ((bitsOf(x, m, h) & ~row) == 0) {
                in += (p - 1 - x) / m + 1;
            }
        }
        return in;
    }

    private int differentNumbers(int many) {
        int different = 0;
        for (int i = 0; i < many; i++) {
            boolean isNew = true;
            for (int j = 0; j < i && isNew; j++) {
                isNew = numbers[j] != numbers[i];
            }
            if (isNew) {
                different++;
            }
        }
        return different;
    }

    /** The bytes that were fed, and the token that was read of them last. */
    private static final class Tape {
        final byte[] bytes;
        int length;
        int next;
        int kind;
        int place;
        int signs;
        long word;
        int value;

        Tape() {
            bytes = new byte[MOST_BYTES];
        }

        void put(int four) {
            for (int shift = 24; shift >= 0 && length < MOST_BYTES; shift -= 8) {
                bytes[length] = (byte) (four >>> shift);
                length++;
            }
        }

        void rewind() {
            next = 0;
        }

        void step() {
            while (next < length && isBlank(bytes[next])) {
                next++;
            }
            place = next;
            signs = 0;
            word = 0;
            value = 0;
            if (next >= length) {
                kind = AT_END;
            } else if (isSmall(bytes[next])) {
                takeWord();
            } else if (isDigit(bytes[next])) {
                takeNumber();
            } else {
                kind = bytes[next] == ';' ? AT_SEMICOLON : AT_OTHER;
                next++;
            }
        }

        private void takeWord() {
            while (next < length && isSmall(bytes[next])) {
                word = word << LETTER_BITS | (bytes[next] - 'a' + 1);
                signs++;
                next++;
            }
            kind = signs <= WORD_LETTERS ? AT_WORD : AT_OTHER;
        }

        private void takeNumber() {
            while (next < length && isDigit(bytes[next])) {
                if (signs < NUMBER_DIGITS) {
                    value = 10 * value + (bytes[next] - '0');
                }
                signs++;
                next++;
            }
            kind = signs <= NUMBER_DIGITS ? AT_NUMBER : AT_OTHER;
        }

        boolean says(String text) {
            if (kind != AT_WORD || signs != text.length() || place + signs > length) {
                return false;
            }
            for (int i = 0; i < signs; i++) {
                if (bytes[place + i] != text.charAt(i)) {
                    return false;
                }
            }
            return true;
        }

        /** 1 to 26 if the token is a word of one letter, else 0. */
        int oneLetter() {
            return kind == AT_WORD && signs == 1 ? (int) word : 0;
        }

        private static boolean isBlank(byte b) {
            return b == 32 || b == 10;
        }

        private static boolean isSmall(byte b) {
            return b >= 'a' && b <= 'z';
        }

        private static boolean isDigit(byte b) {
            return b >= '0' && b <= '9';
        }
    }

    /** The rules of spelling. */
    private static final class Speller {
        /** What each letter is written as; 0: it is dropped. */
        final int[] image;
        final boolean[] isTold;
        boolean doubles;
        int first;
        int clauses;

        Speller() {
            image = new int[LETTERS + 1];
            isTold = new boolean[LETTERS + 1];
            clear();
        }

        void clear() {
            for (int letter = 0; letter <= LETTERS; letter++) {
                image[letter] = letter;
                isTold[letter] = false;
            }
            doubles = false;
            first = 0;
            clauses = 0;
        }

        boolean has(int letter) {
            return letter >= 0 && letter <= LETTERS && isTold[letter];
        }

        void tell(int letter, int as) {
            if (letter >= 0 && letter <= LETTERS) {
                isTold[letter] = true;
                image[letter] = as;
            }
        }

        long keyOf(long word) {
            int most = first == 0 ? WORD_LETTERS : first;
            long key = 0;
            int taken = 0;
            int before = 0;
            for (int shift = TOP_SHIFT; shift >= 0 && taken < most; shift -= LETTER_BITS) {
                int letter = letterAt(word, shift);
                int as = letter <= LETTERS ? image[letter] : 0;
                if (as != 0 && !(doubles && as == before)) {
                    key = key << LETTER_BITS | as;
                    taken++;
                    before = as;
                }
            }
            return key;
        }
    }

    /** A list: the words that were told, then those that came by days. */
    private static final class Names {
        final long[] words;
        final long[] keys;
        final int[] dowries;
        final int[] from;
        final int[] gone;
        int told;
        int all;

        Names() {
            words = new long[MOST_WORDS + MOST_CHANGES];
            keys = new long[MOST_WORDS + MOST_CHANGES];
            dowries = new int[MOST_WORDS + MOST_CHANGES];
            from = new int[MOST_WORDS + MOST_CHANGES];
            gone = new int[MOST_WORDS + MOST_CHANGES];
        }

        void clear() {
            told = 0;
            all = 0;
        }

        void forgetChanges() {
            all = told;
            for (int i = 0; i < told; i++) {
                gone[i] = NEVER;
            }
        }

        void add(long word, long key, int dowry, int day) {
            if (all >= words.length) {
                return;
            }
            words[all] = word;
            keys[all] = key;
            dowries[all] = dowry;
            from[all] = day;
            gone[all] = NEVER;
            all++;
        }

        void tell(long word, long key, int dowry) {
            add(word, key, dowry, 0);
            told = all;
        }

        boolean isOn(int i, int day) {
            return from[i] <= day && day < gone[i];
        }

        int find(long key, int day) {
            for (int i = 0; i < all; i++) {
                if (keys[i] == key && isOn(i, day)) {
                    return i;
                }
            }
            return NONE;
        }

        int sizeAt(int day) {
            int on = 0;
            for (int i = 0; i < all; i++) {
                if (isOn(i, day)) {
                    on++;
                }
            }
            return on;
        }

        int dowriesAt(int day) {
            int sum = 0;
            for (int i = 0; i < all; i++) {
                if (isOn(i, day)) {
                    sum += dowries[i];
                }
            }
            return sum;
        }
    }

    /** The lines of a way, and which bags each side has where its text ends. */
    private static final class Way {
        final int[] who;
        final int[] act;
        final int[] bag;
        /** The second bag, or how many to pad to. */
        final int[] more;
        final boolean[] has;
        final boolean[] isCounted;
        int lines;

        Way() {
            who = new int[MOST_LINES];
            act = new int[MOST_LINES];
            bag = new int[MOST_LINES];
            more = new int[MOST_LINES];
            has = new boolean[BAGS];
            isCounted = new boolean[BAGS];
        }

        void clear() {
            lines = 0;
            for (int i = 0; i < BAGS; i++) {
                has[i] = false;
                isCounted[i] = false;
            }
        }

        static int placeOf(int side, int letter) {
            return side * BAG_LETTERS + letter;
        }

        /** The fault of an act on a bag as things are then; 0: none. */
        int faultOf(int side, int does, int letter) {
            int place = placeOf(side, letter);
            if (does == MAKES) {
                return has[place] ? FAULT_TWICE : 0;
            }
            if (!has[place]) {
                return FAULT_UNKNOWN;
            }
            return does != SENDS && isCounted[place] ? FAULT_COUNTED : 0;
        }

        boolean onlyTells(int line) {
            return act[line] == MEETS || act[line] == SUMS;
        }

        /** How many lines there are up to the last one by which a side sends; 0: she sends nothing. */
        int linesToLastSentBy(int side) {
            int to = lines;
            while (to > 0 && (who[to - 1] != side || act[to - 1] != SENDS)) {
                to--;
            }
            return to;
        }

        void add(int side, int does, int letter, int further) {
            if (lines >= MOST_LINES) {
                return;
            }
            who[lines] = side;
            act[lines] = does;
            bag[lines] = letter;
            more[lines] = further;
            lines++;
            int place = placeOf(side, letter);
            if (does == MAKES) {
                has[place] = true;
            } else if (does == COUNTS) {
                isCounted[place] = true;
            } else if (does == SENDS) {
                int copy = placeOf(1 - side, letter);
                has[copy] = true;
                isCounted[copy] = isCounted[place];
            }
        }
    }

    /** Reads the tape as one text or another; the fault is that of the latest text of the four. */
    private static final class Reader {
        final Tape tape;
        int faultKind;
        int faultPlace;
        long word;
        int dowry;
        private int act;
        private int letter;

        Reader(Tape tape) {
            this.tape = tape;
            faultKind = 0;
            faultPlace = NONE;
        }

        private void begin() {
            faultKind = 0;
            faultPlace = NONE;
            tape.rewind();
        }

        private boolean fail(int kind) {
            faultKind = kind;
            faultPlace = tape.place;
            return false;
        }

        private boolean takeSemicolon() {
            tape.step();
            return tape.kind == AT_SEMICOLON || fail(FAULT_SYNTAX);
        }

        private boolean takeNumber(int least, int most) {
            tape.step();
            if (tape.kind != AT_NUMBER) {
                return fail(FAULT_SYNTAX);
            }
            return tape.value >= least && tape.value <= most || fail(FAULT_RANGE);
        }

        boolean readSpelling(Speller into) {
            begin();
            into.clear();
            for (int clause = 0; clause <= MOST_BYTES; clause++) {
                tape.step();
                if (tape.kind == AT_END) {
                    break;
                }
                boolean good;
                if (tape.says("same")) {
                    good = readSame(into);
                } else if (tape.says("drop")) {
                    good = readDrop(into);
                } else if (tape.says("double")) {
                    good = readDouble(into);
                } else {
                    good = tape.says("first") ? readFirst(into) : fail(FAULT_SYNTAX);
                }
                if (!good) {
                    return false;
                }
                into.clauses++;
            }
            return true;
        }

        private boolean readSame(Speller into) {
            int root = 0;
            for (int i = 0; i <= LETTERS; i++) {
                tape.step();
                if (i >= 2 && tape.kind == AT_SEMICOLON) {
                    return true;
                }
                if (!isNewLetter(into)) {
                    return false;
                }
                if (i == 0) {
                    root = tape.oneLetter();
                }
                into.tell(tape.oneLetter(), root);
            }
            return fail(FAULT_SYNTAX);
        }

        private boolean readDrop(Speller into) {
            for (int i = 0; i <= LETTERS; i++) {
                tape.step();
                if (i >= 1 && tape.kind == AT_SEMICOLON) {
                    return true;
                }
                if (!isNewLetter(into)) {
                    return false;
                }
                into.tell(tape.oneLetter(), 0);
            }
            return fail(FAULT_SYNTAX);
        }

        private boolean isNewLetter(Speller into) {
            int one = tape.oneLetter();
            if (one == 0) {
                return fail(FAULT_SYNTAX);
            }
            return !into.has(one) || fail(FAULT_TWICE);
        }

        private boolean readDouble(Speller into) {
            if (into.doubles) {
                return fail(FAULT_TWICE);
            }
            into.doubles = true;
            return takeSemicolon();
        }

        private boolean readFirst(Speller into) {
            if (into.first != 0) {
                return fail(FAULT_TWICE);
            }
            if (!takeNumber(1, WORD_LETTERS)) {
                return false;
            }
            into.first = tape.value;
            return takeSemicolon();
        }

        boolean readList(Names into, Speller speller) {
            return readNames(into, speller, MOST_WORDS, true);
        }

        boolean readKnown(Names into, Speller speller) {
            return readNames(into, speller, MOST_KNOWN, false);
        }

        private boolean readNames(Names into, Speller speller, int most, boolean withDowry) {
            begin();
            into.clear();
            for (int i = 0; i <= MOST_BYTES; i++) {
                tape.step();
                if (tape.kind == AT_END) {
                    break;
                }
                if (!isNewName(into, speller, most)) {
                    return false;
                }
                long name = tape.word;
                if (withDowry && !takeNumber(0, MOST_DOWRY)) {
                    return false;
                }
                int value = withDowry ? tape.value : 0;
                if (!takeSemicolon()) {
                    return false;
                }
                into.tell(name, speller.keyOf(name), value);
            }
            return true;
        }

        private boolean isNewName(Names into, Speller speller, int most) {
            if (tape.kind != AT_WORD) {
                return fail(FAULT_SYNTAX);
            }
            if (into.find(speller.keyOf(tape.word), 0) != NONE) {
                return fail(FAULT_TWICE);
            }
            return into.told < most || fail(FAULT_ROOM);
        }

        boolean readWay(Way into) {
            begin();
            into.clear();
            for (int line = 0; line <= MOST_BYTES; line++) {
                tape.step();
                if (tape.kind == AT_END) {
                    break;
                }
                if (!readLine(into)) {
                    return false;
                }
            }
            return true;
        }

        private boolean readLine(Way into) {
            int side = tape.says("two") ? 1 : 0;
            if (side == 0 && !tape.says("one")) {
                return fail(FAULT_SYNTAX);
            }
            if (into.lines >= MOST_LINES) {
                return fail(FAULT_ROOM);
            }
            if (!takeAct() || !takeBag(into, side)) {
                return false;
            }
            int first = letter;
            int further = 0;
            if (act == PADS) {
                if (!takeNumber(1, MOST_PADDED)) {
                    return false;
                }
                further = tape.value;
            } else if (act == MEETS || act == SUMS) {
                if (!takeBag(into, side)) {
                    return false;
                }
                further = letter;
            }
            if (!takeSemicolon()) {
                return false;
            }
            into.add(side, act, first, further);
            return true;
        }

        private boolean takeAct() {
            tape.step();
            if (tape.says("makes")) {
                act = MAKES;
            } else if (tape.says("turns")) {
                act = TURNS;
            } else if (tape.says("mixes")) {
                act = MIXES;
            } else if (tape.says("sends")) {
                act = SENDS;
            } else if (tape.says("counts")) {
                act = COUNTS;
            } else if (tape.says("pads")) {
                act = PADS;
            } else if (tape.says("meets")) {
                act = MEETS;
            } else if (tape.says("sums")) {
                act = SUMS;
            } else {
                return fail(FAULT_SYNTAX);
            }
            return true;
        }

        private boolean takeBag(Way into, int side) {
            tape.step();
            int one = tape.oneLetter();
            if (one < 1 || one > BAG_LETTERS) {
                return fail(FAULT_SYNTAX);
            }
            letter = one - 1;
            int kind = into.faultOf(side, act, letter);
            return kind == 0 || fail(kind);
        }

        /** The whole tape is one word. */
        boolean readWord() {
            tape.rewind();
            tape.step();
            word = tape.word;
            if (tape.kind != AT_WORD) {
                return false;
            }
            tape.step();
            return tape.kind == AT_END;
        }

        /** The whole tape is a word and a dowry. */
        boolean readNewcomer() {
            tape.rewind();
            tape.step();
            word = tape.word;
            if (tape.kind != AT_WORD) {
                return false;
            }
            tape.step();
            dowry = tape.value;
            if (tape.kind != AT_NUMBER || dowry > MOST_DOWRY) {
                return false;
            }
            tape.step();
            return tape.kind == AT_END;
        }
    }

    /** A side's secret turning of the numbers 1 .. p - 1. */
    private static final class Turning {
        /** Every answer for a small prime: a search through all lists asks for them over and over. */
        final int[] answers;
        boolean hasAnswers;
        int kind;
        int k;
        int p;

        Turning() {
            answers = new int[MOST_PRIME_TO_AGREE];
            hasAnswers = false;
            kind = POWER;
            k = 1;
            p = FIRST_PRIME;
        }

        static boolean allows(int kind, int k, int p) {
            switch (kind) {
                case POWER:
                    return k >= 1 && k <= p - 2 && Arithmetic.commonFactor(k, p - 1) == 1;
                case TIMES:
                    return k >= 1 && k <= p - 1;
                case PLUS:
                    return k >= 0 && k <= p - 2;
                default:
                    return false;
            }
        }

        void become(int newKind, int newK, int newP) {
            kind = newKind;
            k = newK;
            p = newP;
            hasAnswers = false;
            for (int x = 1; x < p && p <= MOST_PRIME_TO_AGREE; x++) {
                answers[x] = apply(x);
            }
            hasAnswers = p <= MOST_PRIME_TO_AGREE;
        }

        int apply(int x) {
            if (hasAnswers && x >= 0 && x < answers.length) {
                return answers[x];
            }
            if (kind == POWER) {
                return Arithmetic.power(x, k, p);
            }
            if (kind == TIMES) {
                return Arithmetic.times(x, k, p);
            }
            return plus(x, k);
        }

        int undo(int x) {
            if (kind == POWER) {
                return Arithmetic.power(x, Arithmetic.inverse(k, p - 1), p);
            }
            if (kind == TIMES) {
                return Arithmetic.times(x, Arithmetic.inverse(k, p), p);
            }
            return plus(x, p - 1 - k);
        }

        private int plus(int x, int more) {
            long sum = (long) x + more;
            return (int) (sum > p - 1 ? sum - (p - 1) : sum);
        }

        /** x to the k is x just where x to the k - 1 is 1; the other kinds keep all or none. */
        int fixedNumbers() {
            if (kind == POWER) {
                return (int) Arithmetic.commonFactor(k - 1, p - 1);
            }
            int idle = kind == TIMES ? 1 : 0;
            return k == idle ? p - 1 : 0;
        }

        /**
         * Turnings of one kind go in either order, and so does one that changes nothing. A power and
         * a multiple differ by the same factor at every number, so the first tells for all.
         */
        static int lastToLookAt(Turning one, Turning two) {
            int numbers = one.p - 1;
            if (one.kind == two.kind || one.fixedNumbers() == numbers || two.fixedNumbers() == numbers) {
                return 0;
            }
            return one.kind == PLUS || two.kind == PLUS ? numbers : 1;
        }
    }

    /** Numbers in an order; when it was counted, its size alone counts. */
    private static final class Bag {
        final int[] numbers;
        int size;
        int maker;
        boolean isCounted;
        boolean isMixed;

        Bag() {
            numbers = new int[MOST_PADDED];
        }

        void begin(int side) {
            size = 0;
            maker = side;
            isCounted = false;
            isMixed = false;
        }

        void put(int x) {
            if (size < numbers.length) {
                numbers[size] = x;
                size++;
            }
        }

        void copy(Bag other) {
            begin(other.maker);
            for (int i = 0; i < other.size; i++) {
                put(other.numbers[i]);
            }
            isCounted = other.isCounted;
            isMixed = other.isMixed;
        }

        void mix() {
            for (int i = 1; i < size; i++) {
                int x = numbers[i];
                int j = i;
                while (j > 0 && numbers[j - 1] > x) {
                    numbers[j] = numbers[j - 1];
                    j--;
                }
                numbers[j] = x;
            }
            isMixed = true;
        }

        boolean has(int x) {
            for (int i = 0; i < size; i++) {
                if (numbers[i] == x) {
                    return true;
                }
            }
            return false;
        }
    }

    /** What one side has in a run: her list and secrets, her bags, what she saw and what came out. */
    private static final class Hand {
        final int[] list;
        final int[] dowries;
        final Bag[] bags;
        final int[] seen;
        /** On trial nothing is written into the row: what is seen is held against it. */
        final boolean isOnTrial;
        boolean sawOther;
        int listSize;
        Turning turning;
        int seed;
        long draw;
        int seenSize;
        int outKind;
        int outValue;
        long outPlaces;

        Hand(Turning turning, int[] seen, boolean isOnTrial) {
            list = new int[MOST_WORDS];
            dowries = new int[MOST_WORDS];
            bags = new Bag[BAG_LETTERS];
            for (int i = 0; i < BAG_LETTERS; i++) {
                bags[i] = new Bag();
            }
            this.turning = turning;
            this.seen = seen;
            this.isOnTrial = isOnTrial;
        }

        void load(Names names, int ownSeed, int p) {
            listSize = 0;
            for (int i = 0; i < names.told && i < MOST_WORDS; i++) {
                list[i] = numberOf(names.keys[i], p);
                dowries[i] = names.dowries[i];
                listSize++;
            }
            seed = ownSeed;
        }

        /** Dowries stay behind: on trial no OUT is told. */
        void loadLike(Hand other) {
            listSize = other.listSize;
            for (int i = 0; i < listSize; i++) {
                list[i] = other.list[i];
            }
            turning = other.turning;
            seed = other.seed;
        }

        void start() {
            draw = seed;
            seenSize = 0;
            sawOther = false;
            outKind = NONE;
            outValue = 0;
            outPlaces = 0;
        }

        int nextDraw(int p) {
            draw = (1103515245L * draw + 12345) % 2147483648L;
            return p > 1 ? 1 + (int) (draw / 256 % (p - 1)) : 1;
        }

        void see(int number) {
            if (seenSize >= seen.length) {
                return;
            }
            if (!isOnTrial) {
                seen[seenSize] = number;
            } else if (seen[seenSize] != number) {
                sawOther = true;
            }
            seenSize++;
        }

        void seeBag(Bag bag) {
            if (bag.isCounted) {
                see(-1);
                see(bag.size);
                return;
            }
            see(bag.size);
            for (int i = 0; i < bag.size; i++) {
                see(bag.numbers[i]);
            }
        }

        /** The row goes bag by bag: a size and its numbers, or -1 and a count. */
        boolean hasSeen(int x) {
            int i = 0;
            while (i < seenSize) {
                int size = seen[i];
                if (size < 0) {
                    i += 2;
                    continue;
                }
                for (int j = i + 1; j <= i + size && j < seenSize; j++) {
                    if (seen[j] == x) {
                        return true;
                    }
                }
                i += size + 1;
            }
            return false;
        }
    }

    /** A run of a way, line by line. */
    private static final class Play {
        final Hand[] hands;
        int p;
        int turnsDone;
        int bytesSent;

        Play(Hand one, Hand two) {
            hands = new Hand[] {one, two};
        }

        void start(int prime) {
            p = prime;
            turnsDone = 0;
            bytesSent = 0;
            hands[0].start();
            hands[1].start();
        }

        void doLine(Way way, int line) {
            int side = way.who[line];
            int more = way.more[line];
            Hand hand = hands[side];
            Bag bag = hand.bags[way.bag[line]];
            switch (way.act[line]) {
                case MAKES:
                    make(side, bag);
                    break;
                case TURNS:
                    turn(hand, bag);
                    break;
                case MIXES:
                    bag.mix();
                    break;
                case SENDS:
                    send(bag, hands[1 - side], way.bag[line]);
                    break;
                case COUNTS:
                    bag.isCounted = true;
                    break;
                case PADS:
                    pad(hand, bag, more);
                    break;
                case MEETS:
                    meet(side, bag, hand.bags[more]);
                    break;
                case SUMS:
                    meet(side, bag, hand.bags[more]);
                    sum(hand);
                    break;
                default:
                    break;
            }
        }

        private void make(int side, Bag bag) {
            Hand hand = hands[side];
            bag.begin(side);
            for (int i = 0; i < hand.listSize; i++) {
                bag.put(hand.list[i]);
            }
        }

        private void turn(Hand hand, Bag bag) {
            for (int i = 0; i < bag.size; i++) {
                bag.numbers[i] = hand.turning.apply(bag.numbers[i]);
            }
            turnsDone += bag.size;
        }

        private void send(Bag bag, Hand to, int letter) {
            to.bags[letter].copy(bag);
            to.seeBag(bag);
            bytesSent += bag.isCounted ? 4 : 4 * bag.size;
        }

        private void pad(Hand hand, Bag bag, int most) {
            for (int i = bag.size; i < most; i++) {
                bag.put(hand.nextDraw(p));
            }
        }

        private void meet(int side, Bag first, Bag second) {
            Hand hand = hands[side];
            boolean tellsPlaces = first.maker == side && !first.isMixed;
            hand.outKind = tellsPlaces ? OUT_PLACES : OUT_ALONE;
            hand.outValue = 0;
            hand.outPlaces = 0;
            for (int i = 0; i < first.size; i++) {
                if (second.has(first.numbers[i])) {
                    hand.outValue++;
                    if (tellsPlaces && i < hand.listSize) {
                        hand.outPlaces |= 1L << i;
                    }
                }
            }
        }

        private void sum(Hand hand) {
            int sum = 0;
            for (int i = 0; i < hand.listSize; i++) {
                if ((hand.outPlaces >>> i & 1) == 1) {
                    sum += hand.dowries[i];
                }
            }
            hand.outKind = OUT_SUM;
            hand.outValue = sum;
            hand.outPlaces = 0;
        }
    }

    /** For a side: how many key numbers of the other one agree with each list of the known. */
    private static final class Agreement {
        final int[] keyNumbers;
        final int[] numbers;
        final Play trial;
        final Turning guess;
        boolean fresh;
        int subsets;
        int linesThatShow;

        Agreement(Play trial, Turning guess) {
            keyNumbers = new int[1 << MOST_KNOWN];
            numbers = new int[MOST_KNOWN];
            this.trial = trial;
            this.guess = guess;
        }

        void search(Play done, Way way, Names known, int side) {
            if (fresh) {
                return;
            }
            Hand other = trial.hands[1 - side];
            trial.hands[side].loadLike(done.hands[side]);
            other.loadLike(done.hands[1 - side]);
            int kind = other.turning.kind;
            int p = done.p;
            linesThatShow = way.linesToLastSentBy(1 - side);
            loadKnown(known, p);
            for (int k = 0; k < p; k++) {
                if (!Turning.allows(kind, k, p)) {
                    continue;
                }
                guess.become(kind, k, p);
                other.turning = guess;
                for (int bits = 0; bits < subsets; bits++) {
                    loadChosen(other, bits);
                    if (agrees(done, way, side)) {
                        keyNumbers[bits]++;
                    }
                }
            }
            fresh = true;
        }

        private void loadKnown(Names known, int p) {
            subsets = 1;
            for (int i = 0; i < known.told && i < MOST_KNOWN; i++) {
                numbers[i] = numberOf(known.keys[i], p);
                subsets *= 2;
            }
            for (int bits = 0; bits < subsets; bits++) {
                keyNumbers[bits] = 0;
            }
        }

        private void loadChosen(Hand hand, int bits) {
            hand.listSize = 0;
            for (int i = 0; i < MOST_KNOWN; i++) {
                if ((bits >>> i & 1) == 1) {
                    hand.list[hand.listSize] = numbers[i];
                    hand.listSize++;
                }
            }
        }

        /**
         * Whether she sees the same. Her OUT is the same then, too: it is made of her own list and
         * secrets and of what she saw. So lines that only tell an OUT, and those behind the last
         * that sends her something, are left aside.
         */
        private boolean agrees(Play done, Way way, int side) {
            Hand mine = trial.hands[side];
            trial.start(done.p);
            for (int line = 0; line < linesThatShow && !mine.sawOther; line++) {
                if (!way.onlyTells(line)) {
                    trial.doLine(way, line);
                }
            }
            return !mine.sawOther && mine.seenSize == done.hands[side].seenSize;
        }

        int agreeingLists() {
            int agreeing = 0;
            for (int bits = 0; bits < subsets; bits++) {
                if (keyNumbers[bits] > 0) {
                    agreeing++;
                }
            }
            return agreeing;
        }

        int agreeingListsWith(int i) {
            int agreeing = 0;
            for (int bits = 0; bits < subsets; bits++) {
                if (keyNumbers[bits] > 0 && (bits >>> i & 1) == 1) {
                    agreeing++;
                }
            }
            return agreeing;
        }

        int pairs() {
            int pairs = 0;
            for (int bits = 0; bits < subsets; bits++) {
                pairs += keyNumbers[bits];
            }
            return pairs;
        }

        boolean isEven() {
            int least = leastList();
            for (int bits = 0; bits < subsets && least != NONE; bits++) {
                if (keyNumbers[bits] > 0 && keyNumbers[bits] != keyNumbers[least]) {
                    return false;
                }
            }
            return true;
        }

        int leastList() {
            for (int bits = 0; bits < subsets; bits++) {
                if (keyNumbers[bits] > 0) {
                    return bits;
                }
            }
            return NONE;
        }
    }

    /** Whole numbers: factors, powers, choices. */
    private static final class Arithmetic {
        static boolean isPrime(int n) {
            if (n < 4 || n % 2 == 0) {
                return n == 2 || n == 3;
            }
            for (int d = 3; d <= MOST_FACTOR && d * d <= n; d += 2) {
                if (n % d == 0) {
                    return false;
                }
            }
            return true;
        }

        static long commonFactor(long a, long b) {
            for (int step = 0; step < MOST_EUCLID && b != 0; step++) {
                long rest = a % b;
                a = b;
                b = rest;
            }
            return a;
        }

        static int times(long x, long y, int m) {
            return m > 0 ? (int) (x * y % m) : 0;
        }

        static int power(int x, int k, int m) {
            long answer = 1;
            long square = x;
            for (int bit = 0; bit < 31 && k >>> bit != 0 && m > 0; bit++) {
                if ((k >>> bit & 1) == 1) {
                    answer = answer * square % m;
                }
                square = square * square % m;
            }
            return (int) answer;
        }

        /** The number by which k, without a factor that m has, too, is 1 modulo m. */
        static int inverse(int k, int m) {
            long a = k;
            long b = m;
            long ofA = 1;
            long ofB = 0;
            for (int step = 0; step < MOST_EUCLID && b != 0; step++) {
                long part = a / b;
                long rest = a - part * b;
                a = b;
                b = rest;
                rest = ofA - part * ofB;
                ofA = ofB;
                ofB = rest;
            }
            return m > 0 ? (int) Math.floorMod(ofA, (long) m) : 0;
        }

        static long choose(int n, int c) {
            if (c > n) {
                return 0;
            }
            long ways = 1;
            for (int i = 0; i < c; i++) {
                ways = ways * (n - i) / (i + 1);
            }
            return ways;
        }
    }
}
