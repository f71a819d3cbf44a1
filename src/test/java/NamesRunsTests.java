import java.nio.charset.StandardCharsets;
import java.util.ArrayList;
import java.util.Collections;
import java.util.List;
import java.util.Random;
import java.util.Set;
import java.util.TreeSet;

/**
 * SPELLING, NEAR and DAYS on the class and on PlainLists, from a fixed seed. Few letters make many
 * NAMES one, words that go are mostly there, and some lists are nearly full.
 */
public final class NamesRunsTests {
    private static final String LETTERS = "abcd";
    private static final Due DUE = new Due("NamesRunsTests");

    private static int pairs = 0;
    private static int gone = 0;
    private static int full = 0;
    private static int cameAgain = 0;

    private final Random random;
    private final int session;
    private final BothLists real = new BothLists();
    private final PlainLists plain = new PlainLists();
    private final StringBuilder told = new StringBuilder();
    private final List<Set<String>> words = List.of(new TreeSet<>(), new TreeSet<>());
    private final List<Set<String>> past = List.of(new TreeSet<>(), new TreeSet<>());

    private NamesRunsTests(int session) {
        this.session = session;
        this.random = new Random(15485863L * session + 3);
    }

    public static void main(String[] args) {
        int sessions = args.length > 0 ? Integer.parseInt(args[0]) : 1000;
        for (int i = 0; i < sessions; i++) {
            new NamesRunsTests(i).go();
        }
        DUE.holds("names nearly alike: " + pairs, pairs > sessions / 4);
        DUE.holds("names went: " + gone, gone > 2 * sessions);
        DUE.holds("there was no room: " + full, full > sessions / 4);
        DUE.holds("names that had gone came again: " + cameAgain, cameAgain > sessions / 4);
        DUE.finish();
    }

    private void check(String call, long got, long want) {
        DUE.is("session " + session + told + ": " + call, got, want);
    }

    private void put(String text) {
        byte[] bytes = text.getBytes(StandardCharsets.ISO_8859_1);
        Put.bytes(real, bytes);
        for (int[] five : Put.fives(bytes)) {
            plain.feed(five);
        }
        plain.end(bytes.length);
        told.append(" \"").append(text).append('"');
    }

    private void go() {
        put(spelling());
        check("spelling()", real.spelling(), plain.spelling());
        for (int side = 0; side < 2; side++) {
            put(list(side));
            check("list(" + side + ")", real.list(side), plain.list(side));
            check("no fault", plain.fault(0), 0);
        }
        int near = plain.near();
        check("near()", real.near(), near);
        pairs += near > 0 ? 1 : 0;
        keys();
        int day = random.nextInt(3);
        for (int i = 0; i < 44; i++) {
            day = Math.min(400, day + (random.nextInt(30) == 0 ? 150 : random.nextInt(2)));
            change(random.nextInt(2), random.nextInt(15) == 0 ? day - 1 : day);
        }
        for (int asked : new int[] {-1, 0, 1, day - 2, day - 1, day, 399, 400, 401}) {
            ask(asked);
        }
        check("near() as told", real.near(), near);
        for (int what = 0; what <= 7; what++) {
            check("count(" + what + ")", real.count(what), plain.count(what));
        }
    }

    private String word() {
        StringBuilder w = new StringBuilder();
        int letters = 1 + random.nextInt(random.nextInt(8) == 0 ? 10 : 4);
        for (int i = 0; i < letters; i++) {
            w.append(LETTERS.charAt(random.nextInt(LETTERS.length())));
        }
        return w.toString();
    }

    private String spelling() {
        List<String> letters = new ArrayList<>(List.of("a", "b", "c", "d", "z"));
        Collections.shuffle(letters, random);
        List<String> clauses = new ArrayList<>();
        if (random.nextInt(2) == 0) {
            clauses.add("same " + String.join(" ", letters.subList(0, 2 + random.nextInt(2))) + ";");
        }
        if (random.nextInt(3) == 0) {
            clauses.add("drop " + letters.get(3) + ";");
        }
        if (random.nextInt(3) == 0) {
            clauses.add("double;");
        }
        if (random.nextInt(3) == 0) {
            clauses.add("first " + (1 + random.nextInt(10)) + ";");
        }
        Collections.shuffle(clauses, random);
        return String.join(" ", clauses);
    }

    /** A long list has words of two letters that no SPELLING here makes one. */
    private String list(int side) {
        StringBuilder s = new StringBuilder();
        Set<String> keys = new TreeSet<>();
        boolean isLong = random.nextInt(3) == 0;
        int many = isLong ? 36 + random.nextInt(5) : random.nextInt(9);
        for (int i = 0; i < many; i++) {
            String w = isLong && random.nextInt(8) > 0 ? "" + (char) ('e' + i % 20) + (char) ('f' + i / 20) : word();
            if (keys.add(plain.keyOf(w))) {
                words.get(side).add(w);
                s.append(w).append(' ').append(random.nextInt(10000)).append(random.nextInt(4) == 0 ? " ;\n" : ";");
            }
        }
        return s.toString();
    }

    private void keys() {
        for (int i = -2; i <= 3; i++) {
            put(word());
            check("key(" + i + ")", real.key(i), plain.key(i));
        }
        for (int i = 0; i < 3; i++) {
            int side = random.nextInt(2);
            check("number(" + side + ", " + i + ")", real.number(side, i), plain.number(side, i));
        }
    }

    private String oneOf(Set<String> some) {
        return some.isEmpty() || random.nextInt(4) == 0 ? word() : new ArrayList<>(some).get(random.nextInt(some.size()));
    }

    private void change(int side, int day) {
        boolean comes = random.nextInt(3) > 0;
        String w = oneOf(comes ? past.get(side) : words.get(side));
        if (comes && random.nextInt(3) == 0) {
            w = "z" + (char) ('a' + random.nextInt(26));
        }
        put(comes ? w + " " + random.nextInt(10000) : w);
        told.append(comes ? " comes " : " goes ").append(side).append(' ').append(day);
        int due = comes ? plain.comes(side, day) : plain.goes(side, day);
        check("the change", comes ? real.comes(side, day) : real.goes(side, day), due);
        full += due == -3 ? 1 : 0;
        if (due > 0) {
            gone += comes ? 0 : 1;
            cameAgain += comes && past.get(side).contains(w) ? 1 : 0;
            (comes ? words : past).get(side).add(w);
            (comes ? past : words).get(side).remove(w);
        }
        ask(day - random.nextInt(3));
    }

    private void ask(int day) {
        check("both(" + day + ")", real.both(day), plain.both(day));
        for (int side = 0; side < 2; side++) {
            for (int what = 0; what < 2; what++) {
                check("size(" + side + ", " + day + ", " + what + ")", real.size(side, day, what), plain.size(side, day, what));
            }
        }
    }
}
