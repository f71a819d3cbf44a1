import java.math.BigInteger;
import java.util.ArrayList;
import java.util.Arrays;
import java.util.Collections;
import java.util.HashMap;
import java.util.LinkedHashSet;
import java.util.List;
import java.util.Map;
import java.util.Set;
import java.util.TreeSet;

/**
 * The document told once more, as plainly as the Java library lets it be told
 * and without a thought of speed: texts are Strings, every number is tried.
 * RandomRunsTests holds the class against it.
 */
final class PlainLists {
    static final int NONE = -1;
    static final int RANGE = -2;
    static final int FULL = -3;
    static final int STATE = -4;

    /** A run of signs that belong together. kind: 'w', 'n', ';', '?' and '$' at the end. */
    record Token(char kind, String text, int place) {
    }

    record Entry(String word, int dowry) {
    }

    record Change(int side, int day, String word, Integer dowry) {
    }

    record Line(int side, String act, String bag, String other, int pad) {
    }

    static final class Fault extends RuntimeException {
        private static final long serialVersionUID = 1L;
        final int kind;
        final int place;

        Fault(int kind, int place) {
            this.kind = kind;
            this.place = place;
        }
    }

    static final class Sack {
        List<Integer> numbers = new ArrayList<>();
        boolean counted;
        boolean mixed;
        int maker;

        Sack copy() {
            Sack other = new Sack();
            other.numbers = new ArrayList<>(numbers);
            other.counted = counted;
            other.mixed = mixed;
            other.maker = maker;
            return other;
        }
    }

    /** What a run of a way leaves behind. */
    static final class Outcome {
        final List<List<Integer>> saw = List.of(new ArrayList<>(), new ArrayList<>());
        final List<Set<Integer>> sent = List.of(new TreeSet<>(), new TreeSet<>());
        final List<List<Object>> out = new ArrayList<>(Arrays.asList(null, null));
        int cost;
        int bytes;
    }

    private StringBuilder tape = new StringBuilder();
    private List<List<String>> clauses = new ArrayList<>();
    private final List<List<Entry>> lists = new ArrayList<>(List.of(List.of(), List.of()));
    private List<String> known = new ArrayList<>();
    private List<Line> way = new ArrayList<>();
    private Fault latest;
    private long p = 101;
    private final int[] kinds = {0, 0};
    private final long[] secrets = {1, 1};
    private final int[] seeds = {1, 1};
    private List<Change> changes = new ArrayList<>();
    private Outcome outcome;

    // ---- tokens

    int feed(int... five) {
        if (tape.length() + 20 > 1200) {
            return FULL;
        }
        for (int one : five) {
            for (int i = 3; i >= 0; i--) {
                tape.append((char) (one >>> 8 * i & 255));
            }
        }
        return tape.length();
    }

    int end(int n) {
        if (n < 0 || n > tape.length()) {
            return NONE;
        }
        tape.setLength(n);
        return n;
    }

    private List<Token> tokens() {
        String text = tape.toString();
        tape = new StringBuilder();
        List<Token> all = new ArrayList<>();
        java.util.regex.Matcher m = java.util.regex.Pattern.compile("[a-z]+|[0-9]+|[^ \n]").matcher(text);
        while (m.find()) {
            String s = m.group();
            char kind = s.matches("[a-z]{1,10}") ? 'w' : s.matches("[0-9]{1,5}") ? 'n' : s.equals(";") ? ';' : '?';
            all.add(new Token(kind, s, m.start()));
        }
        all.add(new Token('$', "", text.length()));
        return all;
    }

    private static Fault at(int kind, Token t) {
        return new Fault(kind, t.place());
    }

    private static Token need(Token t, char kind) {
        if (t.kind() != kind) {
            throw at(1, t);
        }
        return t;
    }

    private static int needNumber(Token t, int least, int most) {
        need(t, 'n');
        int value = Integer.parseInt(t.text());
        if (value < least || value > most) {
            throw at(2, t);
        }
        return value;
    }

    // ---- texts

    private static List<List<String>> spellingOf(List<Token> t) {
        List<List<String>> result = new ArrayList<>();
        Set<String> had = new TreeSet<>();
        int i = 0;
        while (t.get(i).kind() != '$') {
            List<String> clause = new ArrayList<>();
            Token head = t.get(i++);
            clause.add(head.text());
            switch (need(head, 'w').text()) {
                case "same":
                case "drop":
                    int least = head.text().equals("same") ? 3 : 2;
                    while (clause.size() < least || t.get(i).kind() != ';') {
                        if (need(t.get(i), 'w').text().length() != 1) {
                            throw at(1, t.get(i));
                        }
                        if (!had.add(t.get(i).text())) {
                            throw at(3, t.get(i));
                        }
                        clause.add(t.get(i++).text());
                    }
                    break;
                case "double":
                    if (!had.add("double")) {
                        throw at(3, head);
                    }
                    break;
                case "first":
                    if (!had.add("first")) {
                        throw at(3, head);
                    }
                    clause.add("" + needNumber(t.get(i++), 1, 10));
                    break;
                default:
                    throw at(1, head);
            }
            need(t.get(i++), ';');
            result.add(clause);
        }
        return result;
    }

    String keyOf(String word) {
        String key = word;
        for (List<String> c : clauses) {
            if (c.get(0).equals("drop")) {
                for (String letter : c.subList(1, c.size())) {
                    key = key.replace(letter, "");
                }
            }
        }
        StringBuilder same = new StringBuilder();
        for (char letter : key.toCharArray()) {
            String as = "" + letter;
            for (List<String> c : clauses) {
                if (c.get(0).equals("same") && c.subList(1, c.size()).contains("" + letter)) {
                    as = c.get(1);
                }
            }
            same.append(as);
        }
        key = same.toString();
        for (List<String> c : clauses) {
            if (c.get(0).equals("double")) {
                key = key.replaceAll("(.)\\1+", "$1");
            }
        }
        for (List<String> c : clauses) {
            if (c.get(0).equals("first")) {
                key = key.substring(0, Math.min(key.length(), Integer.parseInt(c.get(1))));
            }
        }
        return key;
    }

    private List<Entry> namesOf(List<Token> t, int most, boolean dowries) {
        List<Entry> result = new ArrayList<>();
        int i = 0;
        while (t.get(i).kind() != '$') {
            Token w = need(t.get(i++), 'w');
            for (Entry e : result) {
                if (keyOf(e.word()).equals(keyOf(w.text()))) {
                    throw at(3, w);
                }
            }
            if (result.size() == most) {
                throw at(4, w);
            }
            int dowry = dowries ? needNumber(t.get(i++), 0, 9999) : 1;
            need(t.get(i++), ';');
            result.add(new Entry(w.text(), dowry));
        }
        return result;
    }

    private static String bagOf(Token t, int side, String act, List<Map<String, Boolean>> has) {
        if (!need(t, 'w').text().matches("[a-h]")) {
            throw at(1, t);
        }
        Boolean counted = has.get(side).get(t.text());
        if (act.equals("makes")) {
            if (counted != null) {
                throw at(3, t);
            }
        } else if (counted == null) {
            throw at(5, t);
        } else if (counted && !act.equals("sends")) {
            throw at(6, t);
        }
        return t.text();
    }

    private static List<Line> wayOf(List<Token> t) {
        List<Line> result = new ArrayList<>();
        List<Map<String, Boolean>> has = List.of(new HashMap<>(), new HashMap<>());
        int i = 0;
        while (t.get(i).kind() != '$') {
            Token who = need(t.get(i++), 'w');
            int side = List.of("one", "two").indexOf(who.text());
            if (side < 0) {
                throw at(1, who);
            }
            if (result.size() == 30) {
                throw at(4, who);
            }
            Token does = need(t.get(i++), 'w');
            String act = does.text();
            if (!List.of("makes", "turns", "mixes", "sends", "counts", "pads", "meets", "sums").contains(act)) {
                throw at(1, does);
            }
            String bag = bagOf(t.get(i++), side, act, has);
            String other = act.matches("meets|sums") ? bagOf(t.get(i++), side, act, has) : "";
            int pad = act.equals("pads") ? needNumber(t.get(i++), 1, 60) : 0;
            need(t.get(i++), ';');
            result.add(new Line(side, act, bag, other, pad));
            switch (act) {
                case "makes" -> has.get(side).put(bag, false);
                case "counts" -> has.get(side).put(bag, true);
                case "sends" -> has.get(1 - side).put(bag, has.get(side).get(bag));
                default -> { }
            }
        }
        return result;
    }

    int spelling() {
        try {
            clauses = spellingOf(tokens());
        } catch (Fault f) {
            latest = f;
            return NONE;
        }
        latest = null;
        lists.set(0, List.of());
        lists.set(1, List.of());
        known = List.of();
        changes = new ArrayList<>();
        outcome = null;
        return clauses.size();
    }

    int list(int side) {
        List<Token> t = tokens();
        if (side < 0 || side > 1) {
            return RANGE;
        }
        try {
            lists.set(side, namesOf(t, 40, true));
        } catch (Fault f) {
            latest = f;
            return NONE;
        }
        latest = null;
        changes = new ArrayList<>();
        outcome = null;
        return lists.get(side).size();
    }

    int known() {
        try {
            List<String> words = new ArrayList<>();
            for (Entry e : namesOf(tokens(), 8, false)) {
                words.add(e.word());
            }
            known = words;
        } catch (Fault f) {
            latest = f;
            return NONE;
        }
        latest = null;
        return known.size();
    }

    int way() {
        try {
            way = wayOf(tokens());
        } catch (Fault f) {
            latest = f;
            return NONE;
        }
        latest = null;
        outcome = null;
        return way.size();
    }

    int fault(int what) {
        if (what == 0) {
            return latest == null ? 0 : latest.kind;
        }
        return what == 1 && latest != null ? latest.place : NONE;
    }

    int key(int i) {
        List<Token> t = tokens();
        if (t.size() != 2 || t.get(0).kind() != 'w') {
            return NONE;
        }
        String key = keyOf(t.get(0).text());
        return i == -1 ? key.length() : i < 0 || i >= key.length() ? NONE : key.charAt(i);
    }

    // ---- numbers and turnings

    int prime(int q) {
        if (q < 5 || !BigInteger.valueOf(q).isProbablePrime(60)) {
            return RANGE;
        }
        p = q;
        Arrays.fill(kinds, 0);
        Arrays.fill(secrets, 1);
        outcome = null;
        return 1;
    }

    private int numberOf(String word) {
        long v = 7 % (p - 1);
        for (char letter : keyOf(word).toCharArray()) {
            v = (31 * v + letter - 96) % (p - 1);
        }
        return (int) (1 + v);
    }

    private List<String> wordsOf(int side) {
        if (side == 2) {
            return known;
        }
        List<String> words = new ArrayList<>();
        for (Entry e : lists.get(side)) {
            words.add(e.word());
        }
        return words;
    }

    int number(int side, int i) {
        if (side < 0 || side > 2 || i < 0 || i >= wordsOf(side).size()) {
            return RANGE;
        }
        return numberOf(wordsOf(side).get(i));
    }

    private boolean allows(int kind, long k) {
        return switch (kind) {
            case 0 -> k >= 1 && k <= p - 2 && BigInteger.valueOf(k).gcd(BigInteger.valueOf(p - 1)).equals(BigInteger.ONE);
            case 1 -> k >= 1 && k <= p - 1;
            case 2 -> k >= 0 && k <= p - 2;
            default -> false;
        };
    }

    private int turnBy(int kind, long k, long x) {
        return switch (kind) {
            case 0 -> BigInteger.valueOf(x).modPow(BigInteger.valueOf(k), BigInteger.valueOf(p)).intValue();
            case 1 -> BigInteger.valueOf(x).multiply(BigInteger.valueOf(k)).mod(BigInteger.valueOf(p)).intValue();
            default -> (int) (x + k > p - 1 ? x + k - (p - 1) : x + k);
        };
    }

    private int turn(int side, long x) {
        return turnBy(kinds[side], secrets[side], x);
    }

    int turning(int side, int kind, int k) {
        if (side < 0 || side > 1 || !allows(kind, k)) {
            return RANGE;
        }
        kinds[side] = kind;
        secrets[side] = k;
        outcome = null;
        return 1;
    }

    int turned(int side, int x, boolean back) {
        if (side < 0 || side > 1 || x < 1 || x > p - 1) {
            return RANGE;
        }
        if (!back) {
            return turn(side, x);
        }
        BigInteger k = BigInteger.valueOf(secrets[side]);
        return switch (kinds[side]) {
            case 0 -> turnBy(0, k.modInverse(BigInteger.valueOf(p - 1)).longValue(), x);
            case 1 -> turnBy(1, k.modInverse(BigInteger.valueOf(p)).longValue(), x);
            default -> (int) (x - secrets[side] < 1 ? x - secrets[side] + p - 1 : x - secrets[side]);
        };
    }

    /** Tries every number: for small primes alone. */
    int fixed(int side) {
        if (side < 0 || side > 1) {
            return RANGE;
        }
        int same = 0;
        for (int x = 1; x < p; x++) {
            same += turn(side, x) == x ? 1 : 0;
        }
        return same;
    }

    int unlike() {
        if (p > 100000) {
            return STATE;
        }
        for (int x = 1; x < p; x++) {
            if (turn(1, turn(0, x)) != turn(0, turn(1, x))) {
                return x;
            }
        }
        return NONE;
    }

    int seed(int side, int s) {
        if (side < 0 || side > 1 || s < 0) {
            return RANGE;
        }
        int was = seeds[side];
        seeds[side] = s;
        outcome = null;
        return was;
    }

    // ---- the way

    private Outcome play(List<List<Entry>> with, int[] kindsThen, long[] secretsThen) {
        Outcome o = new Outcome();
        List<Map<String, Sack>> sacks = List.of(new HashMap<>(), new HashMap<>());
        long[] s = {seeds[0], seeds[1]};
        for (Line l : way) {
            int side = l.side();
            Sack a = sacks.get(side).get(l.bag());
            switch (l.act()) {
                case "makes" -> {
                    Sack made = new Sack();
                    made.maker = side;
                    with.get(side).forEach(e -> made.numbers.add(numberOf(e.word())));
                    sacks.get(side).put(l.bag(), made);
                }
                case "turns" -> {
                    a.numbers.replaceAll(x -> turnBy(kindsThen[side], secretsThen[side], x));
                    o.cost += a.numbers.size();
                }
                case "mixes" -> {
                    Collections.sort(a.numbers);
                    a.mixed = true;
                }
                case "pads" -> {
                    while (a.numbers.size() < l.pad()) {
                        s[side] = (1103515245L * s[side] + 12345L) % (1L << 31);
                        a.numbers.add((int) (1 + s[side] / 256 % (p - 1)));
                    }
                }
                case "counts" -> a.counted = true;
                case "sends" -> {
                    sacks.get(1 - side).put(l.bag(), a.copy());
                    List<Integer> row = o.saw.get(1 - side);
                    row.addAll(a.counted ? List.of(-1, a.numbers.size()) : List.of(a.numbers.size()));
                    if (!a.counted) {
                        row.addAll(a.numbers);
                        o.sent.get(side).addAll(a.numbers);
                    }
                    o.bytes += a.counted ? 4 : 4 * a.numbers.size();
                }
                default -> o.out.set(side, outOf(l, a, sacks.get(side).get(l.other()), with.get(side)));
            }
        }
        return o;
    }

    /** Kind, value, places. */
    private static List<Object> outOf(Line l, Sack a, Sack b, List<Entry> own) {
        boolean told = a.maker == l.side() && !a.mixed;
        int many = 0;
        int sum = 0;
        Set<Integer> places = new TreeSet<>();
        for (int i = 0; i < a.numbers.size(); i++) {
            if (b.numbers.contains(a.numbers.get(i))) {
                many++;
                if (told && i < own.size()) {
                    places.add(i);
                    sum += own.get(i).dowry();
                }
            }
        }
        if (l.act().equals("sums")) {
            return List.of(2, sum, Set.of());
        }
        return told ? List.of(1, many, places) : List.of(0, many, Set.of());
    }

    int run() {
        if (way.isEmpty()) {
            return STATE;
        }
        outcome = play(lists, kinds, secrets);
        return way.size();
    }

    int out(int side, int what) {
        if (side < 0 || side > 1) {
            return RANGE;
        }
        if (outcome == null) {
            return STATE;
        }
        List<Object> o = outcome.out.get(side);
        if (o == null) {
            return NONE;
        }
        if (what == 0 || what == 1) {
            return (Integer) o.get(1 - what);
        }
        if (what < 10 || !o.get(0).equals(1) || what - 10 >= lists.get(side).size()) {
            return NONE;
        }
        return ((Set<?>) o.get(2)).contains(what - 10) ? 1 : 0;
    }

    int saw(int side, int i) {
        if (side < 0 || side > 1 || outcome == null) {
            return -9;
        }
        List<Integer> row = outcome.saw.get(side);
        return i == -1 ? row.size() : i < 0 || i >= row.size() ? -9 : row.get(i);
    }

    int cost(int what) {
        if (what < 0 || what > 1) {
            return NONE;
        }
        return outcome == null ? STATE : what == 0 ? outcome.cost : outcome.bytes;
    }

    /** For each subset of the known, as bits: how many key numbers agree. */
    private int[] agreeing(int side) {
        int other = 1 - side;
        int[] found = new int[1 << known.size()];
        for (int bits = 0; bits < found.length; bits++) {
            List<Entry> chosen = new ArrayList<>();
            for (int i = 0; i < known.size(); i++) {
                if ((bits >> i & 1) == 1) {
                    chosen.add(new Entry(known.get(i), 1));
                }
            }
            List<List<Entry>> with = new ArrayList<>(lists);
            with.set(other, chosen);
            for (long k = 0; k < p; k++) {
                if (allows(kinds[other], k)) {
                    long[] then = secrets.clone();
                    then[other] = k;
                    Outcome o = play(with, kinds, then);
                    boolean same = o.saw.get(side).equals(outcome.saw.get(side))
                            && java.util.Objects.equals(o.out.get(side), outcome.out.get(side));
                    found[bits] += same ? 1 : 0;
                }
            }
        }
        return found;
    }

    int agree(int side, int what) {
        if (side < 0 || side > 1 || what < 0 || what > 3) {
            return RANGE;
        }
        if (outcome == null || p > 60) {
            return STATE;
        }
        int[] found = agreeing(side);
        Set<Integer> different = new LinkedHashSet<>();
        int lists = 0;
        int pairs = 0;
        int least = NONE;
        for (int bits = found.length - 1; bits >= 0; bits--) {
            if (found[bits] > 0) {
                lists++;
                least = bits;
                different.add(found[bits]);
            }
            pairs += found[bits];
        }
        return List.of(lists, pairs, different.size() <= 1 ? 1 : 0, least).get(what);
    }

    int surely(int side, int i) {
        if (side < 0 || side > 1 || i < 0 || i >= known.size()) {
            return RANGE;
        }
        if (outcome == null || p > 60) {
            return STATE;
        }
        int[] found = agreeing(side);
        Set<Integer> answers = new TreeSet<>();
        for (int bits = 0; bits < found.length; bits++) {
            if (found[bits] > 0) {
                answers.add(bits >> i & 1);
            }
        }
        return answers.isEmpty() ? NONE : answers.size() == 2 ? 2 : answers.iterator().next();
    }

    int read(int side) {
        if (side < 0 || side > 1) {
            return RANGE;
        }
        if (outcome == null) {
            return STATE;
        }
        int bits = 0;
        for (int i = 0; i < known.size(); i++) {
            int x = numberOf(known.get(i));
            int once = turn(side, x);
            for (int y : new int[] {x, once, turn(side, once)}) {
                bits |= outcome.sent.get(1 - side).contains(y) ? 1 << i : 0;
            }
        }
        return bits;
    }

    // ---- rows of bits

    private static boolean isRow(int side, int m, int h) {
        return side >= 0 && side <= 1 && m >= 1 && m <= 62 && h >= 1 && h <= 6;
    }

    private static Set<Integer> bitsOf(int x, int m, int h) {
        Set<Integer> bits = new TreeSet<>();
        for (int j = 0; j < h; j++) {
            bits.add((int) (((long) x * (2 * j + 3) + j) % m));
        }
        return bits;
    }

    private Set<Integer> rowOf(int side, int m, int h) {
        Set<Integer> row = new TreeSet<>();
        wordsOf(side).forEach(w -> row.addAll(bitsOf(numberOf(w), m, h)));
        return row;
    }

    long thrown(int side, int m, int h) {
        if (!isRow(side, m, h)) {
            return RANGE;
        }
        long sum = 0;
        for (int bit : rowOf(side, m, h)) {
            sum += 1L << bit;
        }
        return sum;
    }

    int strangers(int side, int m, int h) {
        if (!isRow(side, m, h)) {
            return RANGE;
        }
        if (p > 3000) {
            return STATE;
        }
        Set<Integer> row = rowOf(side, m, h);
        Set<Integer> own = new TreeSet<>();
        wordsOf(side).forEach(w -> own.add(numberOf(w)));
        int strange = 0;
        for (int x = 1; x < p; x++) {
            strange += !own.contains(x) && row.containsAll(bitsOf(x, m, h)) ? 1 : 0;
        }
        return strange;
    }

    int cheapest(int side, int most) {
        if (side < 0 || side > 1 || most < 0) {
            return RANGE;
        }
        if (p > 3000) {
            return STATE;
        }
        for (int m = 1; m <= 62; m++) {
            for (int h = 1; h <= 6; h++) {
                if (strangers(side, m, h) <= most) {
                    return 10 * m + h;
                }
            }
        }
        return NONE;
    }

    int near() {
        int pairs = 0;
        for (String a : wordsOf(0)) {
            for (String b : wordsOf(1)) {
                pairs += !a.equals(b) && keyOf(a).equals(keyOf(b)) ? 1 : 0;
            }
        }
        return pairs;
    }

    // ---- days

    private Map<String, Integer> asOf(int side, int day) {
        Map<String, Integer> names = new HashMap<>();
        lists.get(side).forEach(e -> names.put(keyOf(e.word()), e.dowry()));
        for (Change c : changes) {
            if (c.side() == side && c.day() <= day) {
                if (c.dowry() == null) {
                    names.remove(keyOf(c.word()));
                } else {
                    names.put(keyOf(c.word()), c.dowry());
                }
            }
        }
        return names;
    }

    private boolean falls(int day) {
        return !changes.isEmpty() && day < changes.get(changes.size() - 1).day();
    }

    int comes(int side, int day) {
        List<Token> t = tokens();
        if (side < 0 || side > 1 || day < 0 || day > 400 || falls(day)) {
            return RANGE;
        }
        if (t.size() != 3 || t.get(0).kind() != 'w' || t.get(1).kind() != 'n' || Integer.parseInt(t.get(1).text()) > 9999) {
            return NONE;
        }
        Map<String, Integer> now = asOf(side, day);
        if (now.containsKey(keyOf(t.get(0).text()))) {
            return NONE;
        }
        if (changes.size() == 40 || now.size() == 40) {
            return FULL;
        }
        changes.add(new Change(side, day, t.get(0).text(), Integer.parseInt(t.get(1).text())));
        return changes.size();
    }

    int goes(int side, int day) {
        List<Token> t = tokens();
        if (side < 0 || side > 1 || day < 0 || day > 400 || falls(day)) {
            return RANGE;
        }
        if (t.size() != 2 || t.get(0).kind() != 'w' || !asOf(side, day).containsKey(keyOf(t.get(0).text()))) {
            return NONE;
        }
        if (changes.size() == 40) {
            return FULL;
        }
        changes.add(new Change(side, day, t.get(0).text(), null));
        return changes.size();
    }

    int both(int day) {
        if (day < 0 || day > 400) {
            return RANGE;
        }
        Set<String> names = new TreeSet<>(asOf(0, day).keySet());
        names.retainAll(asOf(1, day).keySet());
        return names.size();
    }

    int size(int side, int day, int what) {
        if (side < 0 || side > 1 || day < 0 || day > 400 || what < 0 || what > 1) {
            return RANGE;
        }
        Map<String, Integer> names = asOf(side, day);
        return what == 0 ? names.size() : names.values().stream().mapToInt(d -> d).sum();
    }

    // ---- a judge

    /** The odds that no false line is opened, line by line: (n - f) / n, then (n - f - 1) / (n - 1) .. */
    private static BigInteger[] odds(int n, int f, int c) {
        BigInteger up = BigInteger.ONE;
        BigInteger low = BigInteger.ONE;
        for (int i = 0; i < c; i++) {
            up = up.multiply(BigInteger.valueOf(Math.max(0, n - f - i)));
            low = low.multiply(BigInteger.valueOf(n - i));
        }
        up = low.subtract(up);
        BigInteger g = up.gcd(low);
        return new BigInteger[] {up.divide(g), low.divide(g)};
    }

    long caught(int n, int f, int c, int what) {
        if (n < 1 || n > 40 || f < 0 || f > n || c < 0 || c > n || what < 0 || what > 1) {
            return RANGE;
        }
        return odds(n, f, c)[what].longValueExact();
    }

    int opened(int n, int f, int a, int b) {
        if (n < 1 || n > 40 || f < 0 || f > n || b < 1 || b > 10000 || a < 0 || a > b) {
            return RANGE;
        }
        for (int c = 0; c <= n; c++) {
            BigInteger[] o = odds(n, f, c);
            if (o[0].multiply(BigInteger.valueOf(b)).compareTo(o[1].multiply(BigInteger.valueOf(a))) >= 0) {
                return c;
            }
        }
        return NONE;
    }

    int count(int what) {
        return switch (what) {
            case 0, 1 -> lists.get(what).size();
            case 2 -> known.size();
            case 3 -> way.size();
            case 4 -> clauses.size();
            case 5 -> (int) p;
            case 6 -> changes.size();
            case 7 -> tape.length();
            default -> NONE;
        };
    }
}
