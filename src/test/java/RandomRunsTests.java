import java.nio.charset.StandardCharsets;
import java.util.ArrayList;
import java.util.Arrays;
import java.util.List;
import java.util.Random;

/** Many runs of calls, drawn from a fixed seed, on the class and on PlainLists at once. */
public final class RandomRunsTests {
    private static final int[] SMALL = {5, 7, 11, 13, 17, 23, 29, 31, 59};
    private static final int[] MIDDLE = {61, 67, 101, 499, 997, 2999, 3001};
    private static final int[] LARGE = {99991, 100003, 65537, 1000003, 2147483629, 2147483647};
    private static final String[] ACTS = {"makes", "turns", "mixes", "sends", "counts", "pads", "meets", "sums"};

    private final Due due;
    private final Random random;
    private final int session;
    private final BothLists real = new BothLists();
    private final PlainLists plain = new PlainLists();
    private int calls = 0;
    private int p = 101;
    private int known = 0;

    private RandomRunsTests(Due due, int session) {
        this.due = due;
        this.session = session;
        this.random = new Random(7919L * session + 17);
    }

    public static void main(String[] args) {
        Due due = new Due("RandomRunsTests");
        int sessions = args.length > 0 ? Integer.parseInt(args[0]) : 1500;
        for (int i = 0; i < sessions; i++) {
            new RandomRunsTests(due, i).go();
        }
        due.finish();
    }

    private void check(String call, long got, long want) {
        calls++;
        due.is("session " + session + " call " + calls + " " + call, got, want);
    }

    private void go() {
        if (random.nextInt(3) > 0) {
            newPrime(SMALL);
        }
        while (calls < 400) {
            int dice = random.nextInt(100);
            if (dice < 3) {
                text(0, 0, spelling());
            } else if (dice < 15) {
                text(1, random.nextInt(20) == 0 ? odd(0, 1) : random.nextInt(2), list());
            } else if (dice < 22) {
                text(2, 0, knownText());
            } else if (dice < 32) {
                text(3, 0, way());
            } else if (dice < 50) {
                runAndAsk();
            } else if (dice < 58) {
                turnings();
            } else if (dice < 62) {
                int side = odd(0, 1);
                int s = random.nextInt(5) == 0 ? random.nextInt() : random.nextInt(4);
                check("seed(" + side + ", " + s + ")", real.seed(side, s), plain.seed(side, s));
            } else if (dice < 66) {
                newPrime(random.nextInt(4) > 0 ? SMALL : random.nextInt(2) == 0 ? MIDDLE : LARGE);
            } else if (dice < 72) {
                rows();
            } else if (dice < 86) {
                days();
            } else if (dice < 92) {
                judge();
            } else if (dice < 96) {
                key();
            } else {
                counts();
            }
        }
    }

    private int odd(int least, int most) {
        if (random.nextInt(8) == 0) {
            return random.nextBoolean() ? Integer.MIN_VALUE + random.nextInt(3) : Integer.MAX_VALUE - random.nextInt(3);
        }
        return least - 2 + random.nextInt(most - least + 5);
    }

    private int mostly(int least, int most) {
        return random.nextInt(12) == 0 ? odd(least, most) : least + random.nextInt(most - least + 1);
    }

    private static int within(int n) {
        return Math.max(1, Math.min(n, 10001));
    }

    private <T> T one(List<T> of) {
        return of.get(random.nextInt(of.size()));
    }

    // ---- texts

    private String word() {
        int letters = random.nextInt(30) == 0 ? 9 + random.nextInt(3) : 1 + random.nextInt(3);
        int alphabet = random.nextInt(3) == 0 ? 26 : 5;
        StringBuilder w = new StringBuilder();
        for (int i = 0; i < letters; i++) {
            w.append((char) ('a' + random.nextInt(alphabet)));
        }
        return w.toString();
    }

    private String spelling() {
        List<String> letters = new ArrayList<>(Arrays.asList("abcdefghijklmnopqrstuvwxyz".split("")));
        java.util.Collections.shuffle(letters, random);
        List<String> early = new ArrayList<>(Arrays.asList("abcdekct".split("")));
        StringBuilder s = new StringBuilder();
        int clauses = random.nextInt(5);
        for (int i = 0; i < clauses; i++) {
            int kind = random.nextInt(4);
            if (kind == 2) {
                s.append("double;");
            } else if (kind == 3) {
                s.append("first ").append(mostly(1, 10)).append(";");
            } else {
                s.append(kind == 0 ? "same" : "drop");
                int many = (kind == 0 ? 2 : 1) + random.nextInt(3) - (random.nextInt(20) == 0 ? 1 : 0);
                for (int j = 0; j < many; j++) {
                    List<String> from = random.nextInt(3) > 0 && !early.isEmpty() ? early : letters;
                    String letter = random.nextInt(15) == 0 ? word() : from.remove(random.nextInt(from.size()));
                    early.remove(letter);
                    letters.remove(letter);
                    s.append(" ").append(letter);
                }
                s.append(";");
            }
        }
        return s.toString();
    }

    private String list() {
        int many = random.nextInt(12) == 0 ? 36 + random.nextInt(8) : random.nextInt(7);
        StringBuilder s = new StringBuilder();
        for (int i = 0; i < many; i++) {
            String w = many > 20 && random.nextInt(150) > 0 ? "" + (char) ('a' + i % 26) + (char) ('f' + i / 26) + "x" : word();
            int dowry = random.nextInt(60) == 0 ? 9990 + random.nextInt(20) : random.nextInt(50);
            s.append(w).append(" ").append(dowry).append(random.nextInt(60) == 0 ? "" : ";");
        }
        return s.toString();
    }

    private String knownText() {
        int many = random.nextInt(20) == 0 ? 7 + random.nextInt(3) : random.nextInt(p > 13 ? 4 : 5);
        StringBuilder s = new StringBuilder();
        for (int i = 0; i < many; i++) {
            s.append(many > 6 ? "" + (char) ('a' + i) : word()).append(random.nextInt(60) == 0 ? " " : ";");
        }
        return s.toString();
    }

    private String way() {
        int lines = random.nextInt(10) == 0 ? 28 + random.nextInt(5) : random.nextInt(14);
        int[][] has = new int[2][9];
        StringBuilder s = new StringBuilder();
        for (int i = 0; i < lines; i++) {
            int side = random.nextInt(2);
            boolean wild = random.nextInt(80) == 0;
            int act = i < 2 ? 0 : random.nextInt(8);
            int bag = pick(has[side], act, wild);
            if (bag < 0) {
                continue;
            }
            s.append(side == 0 ? "one " : "two ").append(ACTS[act]).append(" ").append((char) ('a' + bag));
            if (act == 5) {
                s.append(" ").append(random.nextInt(40) == 0 ? odd(1, 60) : 1 + random.nextInt(9));
            }
            if (act > 5) {
                s.append(" ").append((char) ('a' + Math.max(0, pick(has[side], act, wild))));
            }
            s.append(random.nextInt(150) == 0 ? "" : ";");
            if (act == 0) {
                has[side][bag] = 1;
            } else if (act == 3) {
                has[1 - side][bag] = has[side][bag];
            } else if (act == 4) {
                has[side][bag] = 2;
            }
        }
        return s.toString();
    }

    private int pick(int[] has, int act, boolean wild) {
        for (int tries = 0; tries < 12; tries++) {
            int bag = random.nextInt(wild ? 9 : 4);
            boolean fits = wild || (act == 0 ? has[bag] == 0 : act == 3 ? has[bag] > 0 : has[bag] == 1);
            if (fits && (act != 4 || random.nextInt(4) == 0)) {
                return bag;
            }
        }
        return -1;
    }

    private byte[] spoil(String text) {
        StringBuilder s = new StringBuilder(text);
        if (random.nextInt(4) == 0) {
            for (int i = s.length() - 1; i >= 0 && s.length() < 1100; i--) {
                boolean between = s.charAt(i) == ' ' || s.charAt(i) == ';';
                if (between && random.nextInt(8) == 0) {
                    s.insert(i, random.nextInt(2) == 0 ? " " : "\n");
                }
            }
        }
        if (random.nextInt(6) == 0) {
            int at = random.nextInt(s.length() + 1);
            String strange = "; \n0a1z9A\u0000\t\u00ff,:`{/";
            char sign = strange.charAt(random.nextInt(strange.length()));
            if (at < s.length() && random.nextInt(3) == 0) {
                s.deleteCharAt(at);
            } else if (at < s.length() && random.nextInt(2) == 0) {
                s.setCharAt(at, sign);
            } else {
                s.insert(at, sign);
            }
        }
        return s.toString().getBytes(StandardCharsets.ISO_8859_1);
    }

    private void put(byte[] bytes) {
        check("end(0)", real.end(0), plain.end(0));
        for (int[] f : Put.fives(bytes)) {
            check("feed", real.feed(f[0], f[1], f[2], f[3], f[4]), plain.feed(f));
        }
        check("end(" + bytes.length + ")", real.end(bytes.length), plain.end(bytes.length));
        if (random.nextInt(30) == 0) {
            int n = odd(0, bytes.length);
            check("end(" + n + ")", real.end(n), plain.end(n));
        }
    }

    private void text(int which, int side, String text) {
        byte[] bytes = spoil(text);
        put(bytes);
        String told = " of \"" + new String(bytes, StandardCharsets.ISO_8859_1) + "\"";
        switch (which) {
            case 0 -> check("spelling()" + told, real.spelling(), plain.spelling());
            case 1 -> check("list(" + side + ")" + told, real.list(side), plain.list(side));
            case 2 -> check("known()" + told, real.known(), plain.known());
            default -> check("way()" + told, real.way(), plain.way());
        }
        known = plain.count(2);
        check("fault(0)" + told, real.fault(0), plain.fault(0));
        check("fault(1)" + told, real.fault(1), plain.fault(1));
        check("count(7)", real.count(7), 0);
    }

    private void key() {
        put(spoil(random.nextInt(20) == 0 ? list() : " " + word() + " "));
        int i = random.nextInt(8) - 2;
        check("key(" + i + ")", real.key(i), plain.key(i));
    }

    private void counts() {
        for (int what = -1; what <= 8; what++) {
            check("count(" + what + ")", real.count(what), plain.count(what));
        }
        int what = odd(0, 1);
        check("fault(" + what + ")", real.fault(what), plain.fault(what));
    }

    // ---- numbers and turnings

    private void newPrime(int[] from) {
        int q = random.nextInt(6) == 0 ? random.nextInt(200) - 5 : from[random.nextInt(from.length)];
        check("prime(" + q + ")", real.prime(q), plain.prime(q));
        p = plain.count(5);
    }

    private int turningNumber() {
        return random.nextInt(8) == 0 ? p - 3 + random.nextInt(5) : random.nextInt(p) - random.nextInt(2);
    }

    private void turnings() {
        for (int i = 0; i < 2; i++) {
            int side = mostly(0, 1);
            int kind = mostly(0, 2);
            int k = turningNumber();
            check("turning(" + side + ", " + kind + ", " + k + ")", real.turning(side, kind, k), plain.turning(side, kind, k));
        }
        for (int side = -1; side <= 2; side++) {
            if (p < 4000) {
                check("fixed(" + side + ")", real.fixed(side), plain.fixed(side));
            }
            int x = turningNumber();
            boolean back = random.nextBoolean();
            check("turned(" + side + ", " + x + ", " + back + ") by " + p, real.turned(side, x, back), plain.turned(side, x, back));
        }
        if (p < 4000 || p > 100000) {
            check("unlike() by " + p, real.unlike(), plain.unlike());
        }
        int side = odd(0, 2);
        int i = random.nextInt(6) - 1;
        check("number(" + side + ", " + i + ") by " + p, real.number(side, i), plain.number(side, i));
    }

    // ---- the way

    private void runAndAsk() {
        if (random.nextInt(8) > 0) {
            check("run()", real.run(), plain.run());
        }
        for (int side = 0; side < 2; side++) {
            for (int what = 0; what < 16; what++) {
                check("out(" + side + ", " + what + ")", real.out(side, what), plain.out(side, what));
            }
            int row = plain.saw(side, -1);
            for (int i = -2; i <= row && i < 40; i++) {
                check("saw(" + side + ", " + i + ")", real.saw(side, i), plain.saw(side, i));
            }
            calls -= Math.max(0, Math.min(row, 40));
            check("read(" + side + ")", real.read(side), plain.read(side));
        }
        int strange = odd(0, 1);
        check("out(" + strange + ", 0)", real.out(strange, 0), plain.out(strange, 0));
        check("saw(" + strange + ", 0)", real.saw(strange, 0), plain.saw(strange, 0));
        check("read(" + strange + ")", real.read(strange), plain.read(strange));
        check("cost(" + strange + ")", real.cost(strange), plain.cost(strange));
        check("cost(0)", real.cost(0), plain.cost(0));
        check("cost(1)", real.cost(1), plain.cost(1));
        long trials = (long) p << known;
        if (p > 60 || trials < 500 || trials < 16000 && random.nextInt((int) (trials / 250)) == 0) {
            agreements();
        }
    }

    private void agreements() {
        int side = mostly(0, 1);
        for (int what = 0; what < 4; what++) {
            check("agree(" + side + ", " + what + ")", real.agree(side, what), plain.agree(side, what));
        }
        int odd = odd(0, 3);
        check("agree(" + side + ", " + odd + ")", real.agree(side, odd), plain.agree(side, odd));
        for (int i = random.nextInt(3) - 1; i <= known; i++) {
            check("surely(" + side + ", " + i + ")", real.surely(side, i), plain.surely(side, i));
        }
    }

    // ---- rows, days, a judge

    private void rows() {
        int side = mostly(0, 1);
        int m = mostly(1, 62);
        int h = mostly(1, 6);
        check("thrown(" + side + ", " + m + ", " + h + ")", real.thrown(side, m, h), plain.thrown(side, m, h));
        check("strangers(" + side + ", " + m + ", " + h + ") by " + p, real.strangers(side, m, h), plain.strangers(side, m, h));
        if (p < 200 || random.nextInt(30) == 0) {
            int most = random.nextInt(4) == 0 ? odd(0, Math.min(p, 3000)) : random.nextInt(4);
            check("cheapest(" + side + ", " + most + ") by " + p, real.cheapest(side, most), plain.cheapest(side, most));
        }
        check("near()", real.near(), plain.near());
    }

    private void days() {
        int steps = random.nextInt(10) == 0 ? 45 : 1 + random.nextInt(6);
        int day = random.nextInt(20);
        for (int i = 0; i < steps; i++) {
            int side = mostly(0, 1);
            int next = random.nextInt(20) == 0 ? one(List.of(-1, 0, 5, 399, 400, 401)) : day + random.nextInt(3);
            day = random.nextInt(200) == 0 ? odd(0, 400) : Math.max(-2, Math.min(402, next));
            boolean comes = random.nextInt(3) > 0;
            put(spoil(comes ? word() + " " + (random.nextInt(20) == 0 ? 9998 + random.nextInt(4) : random.nextInt(90)) : word()));
            if (comes) {
                check("comes(" + side + ", " + day + ")", real.comes(side, day), plain.comes(side, day));
            } else {
                check("goes(" + side + ", " + day + ")", real.goes(side, day), plain.goes(side, day));
            }
            int asked = random.nextInt(50) == 0 ? odd(0, 400) : Math.max(-1, day - random.nextInt(4));
            check("both(" + asked + ")", real.both(asked), plain.both(asked));
            int what = mostly(0, 1);
            check("size(" + side + ", " + asked + ", " + what + ")", real.size(side, asked, what), plain.size(side, asked, what));
        }
    }

    private void judge() {
        for (int i = 0; i < 6; i++) {
            int n = mostly(1, 40);
            int f = mostly(0, within(n));
            int c = mostly(0, within(n));
            int what = mostly(0, 1);
            String told = "(" + n + ", " + f + ", " + c + ", " + what + ")";
            check("caught" + told, real.caught(n, f, c, what), plain.caught(n, f, c, what));
            int b = random.nextInt(4) == 0 ? mostly(1, 10000) : mostly(1, 20);
            int a = mostly(0, within(b));
            told = "(" + n + ", " + f + ", " + a + ", " + b + ")";
            check("opened" + told, real.opened(n, f, a, b), plain.opened(n, f, a, b));
        }
    }
}
