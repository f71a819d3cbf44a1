import java.util.ArrayList;
import java.util.Collections;
import java.util.List;
import java.util.Random;

/**
 * AGREE, SURELY and READ on the class and on PlainLists, from a fixed seed. Both LISTS are mostly
 * taken from THE KNOWN and something is always sent, so that some lists agree and some don't.
 */
public final class AgreeRunsTests {
    private static final int[] PRIMES = {5, 7, 11, 13, 17, 19, 23};
    private static final String[] ACTS = {"turns", "turns", "mixes", "sends", "sends", "pads", "counts", "meets", "sums"};
    private static final Due DUE = new Due("AgreeRunsTests");

    private static int asked = 0;
    private static int someAgree = 0;
    private static int notEven = 0;

    private final Random random;
    private final int session;
    private final BothLists real = new BothLists();
    private final PlainLists plain = new PlainLists();
    private final StringBuilder told = new StringBuilder();

    private AgreeRunsTests(int session) {
        this.session = session;
        this.random = new Random(104729L * session + 5);
    }

    public static void main(String[] args) {
        int sessions = args.length > 0 ? Integer.parseInt(args[0]) : 500;
        for (int i = 0; i < sessions; i++) {
            new AgreeRunsTests(i).go();
        }
        DUE.holds("some agree and some don't in " + someAgree + " of " + asked, 3 * someAgree > asked);
        DUE.holds("lists that agree are not even in " + notEven + " of " + asked, 25 * notEven > asked);
        DUE.finish();
    }

    private void check(String call, long got, long want) {
        DUE.is("session " + session + told + ": " + call, got, want);
    }

    private void go() {
        int p = PRIMES[random.nextInt(PRIMES.length)];
        check("prime(" + p + ")", real.prime(p), plain.prime(p));
        if (random.nextInt(4) == 0) {
            text("spelling", random.nextInt(2) == 0 ? "same a c;" : "drop b;double;");
        }
        List<String> names = names(2 + random.nextInt(3));
        boolean pads = random.nextInt(2) == 0;
        text("known", String.join(";", names) + ";");
        text("list 0", listOf(names, pads ? 1 : 2));
        text("list 1", listOf(names, pads ? 1 : 2));
        text("way", pads ? wayOfPads() : wayOfAll());
        for (int round = 0; round < 3; round++) {
            turn(p);
            check("run()", real.run(), plain.run());
            askAll();
            if (random.nextInt(3) == 0) {
                text("known", String.join(";", names(1 + random.nextInt(4))) + ";");
                askAll();
            }
        }
    }

    private void text(String call, String text) {
        told.append(' ').append(call).append(" \"").append(text).append('"');
        byte[] bytes = text.getBytes(java.nio.charset.StandardCharsets.ISO_8859_1);
        Put.bytes(real, bytes);
        for (int[] five : Put.fives(bytes)) {
            plain.feed(five);
        }
        plain.end(bytes.length);
        switch (call) {
            case "spelling" -> check(call, real.spelling(), plain.spelling());
            case "known" -> check(call, real.known(), plain.known());
            case "way" -> check(call, real.way(), plain.way());
            default -> {
                int side = call.charAt(5) - '0';
                check(call, real.list(side), plain.list(side));
            }
        }
        check(call + " has no fault", plain.fault(0), 0);
    }

    /** Different words of one letter each, but for b with a letter of its own behind it: no SPELLING here makes two of them one. */
    private List<String> names(int many) {
        List<String> all = new ArrayList<>(List.of("a", "bd", "e", "f", "g", "k", "m", "t", "z"));
        Collections.shuffle(all, random);
        return all.subList(0, many);
    }

    private String listOf(List<String> names, int ofThree) {
        List<String> chosen = new ArrayList<>(names);
        if (random.nextInt(8) == 0) {
            Collections.shuffle(chosen, random);
        }
        StringBuilder s = new StringBuilder();
        for (String name : chosen) {
            if (random.nextInt(3) < ofThree) {
                s.append(name).append(' ').append(random.nextInt(4)).append(';');
            }
        }
        return random.nextInt(10) == 0 ? s.append("q 2;").toString() : s.toString();
    }

    /** Each bag is turned and then filled up by draws: one name more may look like a draw. */
    private String wayOfPads() {
        return turnedAndPadded("one", "a") + "one sends a;two turns a;two sends a;"
                + turnedAndPadded("two", "b") + "two meets b a;two sends b;";
    }

    private String turnedAndPadded(String who, String bag) {
        String mixes = random.nextInt(2) == 0 ? "" : who + " mixes " + bag + ";";
        return who + " makes " + bag + ";" + who + " turns " + bag + ";"
                + who + " pads " + bag + " " + (1 + random.nextInt(2)) + ";" + mixes;
    }

    /** Any acts. Of a bag 0: she has none so, 1: she has it, 2: it was counted. */
    private String wayOfAll() {
        int[][] has = new int[2][3];
        has[0][0] = 1;
        has[1][1] = 1;
        StringBuilder s = new StringBuilder("one makes a;two makes b;");
        int lines = 3 + random.nextInt(12);
        for (int i = 0; i < lines; i++) {
            int side = random.nextInt(2);
            int bag = random.nextInt(3);
            String act = has[side][bag] == 0 ? "makes" : has[side][bag] == 2 ? "sends" : ACTS[random.nextInt(ACTS.length)];
            int other = random.nextInt(3);
            boolean isMeeting = act.equals("meets") || act.equals("sums");
            if (act.equals("counts") && random.nextInt(3) > 0 || isMeeting && has[side][other] != 1) {
                continue;
            }
            s.append(side == 0 ? "one " : "two ").append(act).append(' ').append((char) ('a' + bag));
            if (act.equals("pads")) {
                s.append(' ').append(1 + random.nextInt(6));
            } else if (isMeeting) {
                s.append(' ').append((char) ('a' + other));
            }
            s.append(';');
            if (act.equals("sends")) {
                has[1 - side][bag] = has[side][bag];
            } else {
                has[side][bag] = act.equals("counts") ? 2 : 1;
            }
        }
        if (has[0][0] > 0) {
            s.append("one sends a;");
        }
        return s.append("two sends b;").toString();
    }

    private void turn(int p) {
        for (int side = 0; side < 2; side++) {
            int kind = random.nextInt(3);
            int k = 1 + random.nextInt(p - 2);
            told.append(" turning ").append(side).append(' ').append(kind).append(' ').append(k);
            check("turning", real.turning(side, kind, k), plain.turning(side, kind, k));
            int s = random.nextInt(1000);
            told.append(" seed ").append(side).append(' ').append(s);
            check("seed", real.seed(side, s), plain.seed(side, s));
        }
    }

    private void askAll() {
        for (int side = 0; side < 2; side++) {
            int[] due = new int[4];
            for (int what = 0; what < 4; what++) {
                due[what] = plain.agree(side, what);
                check("agree(" + side + ", " + what + ")", real.agree(side, what), due[what]);
            }
            asked++;
            someAgree += due[0] > 0 && due[0] < 1 << plain.count(2) ? 1 : 0;
            notEven += due[2] == 0 ? 1 : 0;
            for (int i = 0; i < plain.count(2); i++) {
                check("surely(" + side + ", " + i + ")", real.surely(side, i), plain.surely(side, i));
            }
            check("read(" + side + ")", real.read(side), plain.read(side));
            for (int what = 0; what < 2; what++) {
                check("out(" + side + ", " + what + ")", real.out(side, what), plain.out(side, what));
            }
        }
    }
}
