/** What the tests of the promises share: names of answers, and calls that put a text on the tape ahead of reading it. */
abstract class Common {
    static final int NONE = -1;
    static final int RANGE = -2;
    static final int FULL = -3;
    static final int STATE = -4;
    static final int NOT_SEEN = -9;
    static final int LEAST = Integer.MIN_VALUE;
    static final int MOST = Integer.MAX_VALUE;
    static final String MEETING = "one makes a; one sends a; two makes b; two meets b a;";
    static final int[] NO_SIDES = {-1, 2, LEAST, MOST};

    private static Due due;
    private static String sentence = "";

    static void begin(String name) {
        due = new Due(name);
        sentence = "";
    }

    static void finish() {
        due.finish();
    }

    /** The sentence of the document that the next answers are about: a wrong one is told with it. */
    static void says(String words) {
        sentence = "\"" + words + "\": ";
    }

    static void is(String what, long got, long want) {
        due.is(sentence + what, got, want);
    }

    // ---- a text, and the call that reads it

    static int spelling(BothLists x, String text) {
        Put.text(x, text);
        return x.spelling();
    }

    static int list(BothLists x, int side, String text) {
        Put.text(x, text);
        return x.list(side);
    }

    static int known(BothLists x, String text) {
        Put.text(x, text);
        return x.known();
    }

    static int way(BothLists x, String text) {
        Put.text(x, text);
        return x.way();
    }

    static int key(BothLists x, String text, int i) {
        Put.text(x, text);
        return x.key(i);
    }

    static int comes(BothLists x, int side, int day, String text) {
        Put.text(x, text);
        return x.comes(side, day);
    }

    static int goes(BothLists x, int side, int day, String text) {
        Put.text(x, text);
        return x.goes(side, day);
    }

    // ---- a new object, a text with a fault, and where it is

    private static void faultIs(String what, BothLists x, int answer, int kind, int place) {
        is(what + " answers", answer, NONE);
        is(what + " kind", x.fault(0), kind);
        is(what + " place", x.fault(1), place);
    }

    static void badSpelling(String text, int kind, int place) {
        BothLists x = new BothLists();
        faultIs("spelling " + text, x, spelling(x, text), kind, place);
    }

    static void badList(String text, int kind, int place) {
        BothLists x = new BothLists();
        faultIs("list " + text, x, list(x, 1, text), kind, place);
    }

    static void badKnown(String text, int kind, int place) {
        BothLists x = new BothLists();
        faultIs("known " + text, x, known(x, text), kind, place);
    }

    static void badWay(String text, int kind, int place) {
        BothLists x = new BothLists();
        faultIs("way " + text, x, way(x, text), kind, place);
    }

    // ---- what is often needed

    /** Many different words, two letters each. */
    static String words(int many, String behind) {
        StringBuilder s = new StringBuilder();
        for (int i = 0; i < many; i++) {
            s.append((char) ('a' + i % 26)).append((char) ('a' + i / 26)).append(behind);
        }
        return s.toString();
    }

    static BothLists ready(int p, String one, String two, String way) {
        BothLists x = new BothLists();
        is("ready prime", x.prime(p), 1);
        is("ready list 0", list(x, 0, one) >= 0 ? 1 : 0, 1);
        is("ready list 1", list(x, 1, two) >= 0 ? 1 : 0, 1);
        is("ready way", way(x, way) >= 0 ? 1 : 0, 1);
        return x;
    }

    static void sawIs(String what, BothLists x, int side, int... row) {
        is(what + ", how many", x.saw(side, -1), row.length);
        for (int i = 0; i < row.length; i++) {
            is(what + ", number " + i, x.saw(side, i), row[i]);
        }
    }
}
