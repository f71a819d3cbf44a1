/**
 * Terms III and promises 17 to 23: every sentence that names an edge, one method each, with its words.
 * By 101 the NUMBERS of a, b, c .. are 19, 20, 21 ..; by 11 they are 9, 10, 1, 2 ..; by 5 they are 3, 4, 1, 2, 3 ..
 */
public final class WayEdgesTests extends Common {
    private static final int POWER = 0;
    private static final int TIMES = 1;
    private static final int PLUS = 2;
    private static final int HIGHEST = 2147483647;

    public static void main(String[] args) {
        begin("WayEdgesTests");
        runState();
        runOfEmptyLists();
        makes();
        makesAsTold();
        turns();
        mixes();
        padsFewer();
        padsDraws();
        padsToSixty();
        counts();
        meetsHowMany();
        meetsByAllPrimes();
        meetsNoMoreOfEarlierRuns();
        meetsMadeByHer();
        meetsMixed();
        meetsPaddedAside();
        meetsLargest();
        sums();
        sumsWithoutPlaces();
        laterOut();
        outEdges();
        outState();
        sawRow();
        sawEdges();
        cost();
        gone();
        left();
        agreeKeyNumbers();
        agreeOrder();
        agreeSeeds();
        agreeNone();
        agreeEdges();
        agreeLeavesTheRun();
        agreeEven();
        agreeOfShorterTexts();
        agreeOfLongestTexts();
        surely();
        surelyEdges();
        readTimes();
        readBags();
        readEdges();
        finish();
    }

    private static long draw(long seed, int many, int p) {
        long s = seed;
        for (int i = 0; i < many; i++) {
            s = (1103515245L * s + 12345L) % 2147483648L;
        }
        return 1 + s / 256 % (p - 1);
    }

    private static void newWay(BothLists x, String text) {
        is("way " + text, way(x, text) > 0 ? 1 : 0, 1);
        is("run", x.run() > 0 ? 1 : 0, 1);
    }

    /** Kind of OUT and how many, or the sum. */
    private static void outIs(String what, BothLists x, int side, int kind, int value) {
        is(what + ", kind", x.out(side, 1), kind);
        is(what + ", how many", x.out(side, 0), value);
    }

    private static void placesAre(String what, BothLists x, int side, int... places) {
        for (int i = 0; i < places.length; i++) {
            is(what + ", place " + i, x.out(side, 10 + i), places[i]);
        }
        is(what + ", no more places", x.out(side, 10 + places.length), NONE);
    }

    // ---- promise 17, and what the lines do

    private static void runState() {
        says("17: STATE: THE WAY has none");
        BothLists x = new BothLists();
        is("a new object", x.run(), STATE);
        list(x, 0, "a 1;");
        is("with a list", x.run(), STATE);
        way(x, "one makes");
        is("with a fault", x.run(), STATE);
        way(x, "one makes a;");
        is("one line", x.run(), 1);
        way(x, "one makes");
        is("a fault leaves it", x.run(), 1);
        way(x, "");
        is("none again", x.run(), STATE);
        is("and nothing was run", x.cost(0), STATE);
        is("thirty lines", way(x, "one makes a;" + "one turns a;".repeat(29)), 30);
        is("thirty", x.run(), 30);
    }

    private static void runOfEmptyLists() {
        says("III: A RUN of THE WAY with both LISTS");
        BothLists x = new BothLists();
        newWay(x, "one makes a; one turns a; one mixes a; one sends a; two makes b; two meets b a; two meets a b; two sends b;"
                + "one meets b a; one makes c; one sums c a; one counts a; one sends a;");
        sawIs("one", x, 0, 0);
        sawIs("two", x, 1, 0, -1, 0);
        outIs("one", x, 0, 2, 0);
        outIs("two", x, 1, 0, 0);
        is("cost", x.cost(0), 0);
        is("bytes", x.cost(1), 4);
        is("read", x.read(0) + x.read(1), 0);
        newWay(x, MEETING);
        outIs("met by nobody", x, 1, 1, 0);
        placesAre("of nobody", x, 1);
    }

    private static void makes() {
        says("III: makes: the bag has the NUMBERS of her LIST, in its order");
        BothLists x = ready(101, "c 1; a 1; b 1;", "z 1;", "one makes a; one sends a; two makes b; two sends b;");
        x.run();
        sawIs("of one", x, 1, 3, 21, 19, 20);
        sawIs("of two", x, 0, 1, 44);
        list(x, 0, words(40, " 1;"));
        x.run();
        is("forty", x.saw(1, 0), 40);
        for (int i = 0; i < 40; i++) {
            is("number " + i, x.saw(1, 1 + i), x.number(0, i));
        }
        is("no more", x.saw(1, -1), 41);
        BothLists y = ready(5, "a 1; e 1; i 1;", "", "one makes a; one sends a;");
        y.run();
        sawIs("three names of one number", y, 1, 3, 3, 3, 3);
    }

    private static void makesAsTold() {
        says("IV: The LISTS as they are for all else: as they were told");
        BothLists x = ready(101, "a 1; b 1;", "", "one makes a; one sends a;");
        comes(x, 0, 0, "c 1");
        goes(x, 0, 0, "a");
        x.run();
        sawIs("one", x, 1, 2, 19, 20);
    }

    private static void turns() {
        says("III: turns: each of them is turned by her");
        BothLists x = ready(11, "a 1; b 1; c 1;", "", "one makes a; one turns a; one sends a; two turns a; two turns a; two sends a;");
        x.turning(0, PLUS, 1);
        x.turning(1, TIMES, 2);
        x.run();
        sawIs("by one: 9, 10, 1 and 1", x, 1, 3, 10, 1, 2);
        sawIs("by two: two times 2", x, 0, 3, 7, 4, 8);
        is("cost", x.cost(0), 9);
        newWay(x, "one makes a; one pads a 60; one turns a; one sends a;");
        is("sixty", x.cost(0), 60);
        is("the first", x.saw(1, 1), 10);
        is("the last", x.saw(1, 60), draw(1, 57, 11) % 10 + 1);
    }

    private static void mixes() {
        says("III: mixes: they are put in rising order");
        BothLists x = ready(5, "b 1; a 1; e 1; c 1; d 1; h 1;", "", "one makes a; one mixes a; one sends a;");
        x.run();
        sawIs("equal ones, too", x, 1, 6, 1, 2, 2, 3, 3, 4);
        list(x, 0, "c 1; d 1; a 1; b 1;");
        x.run();
        sawIs("in order already", x, 1, 4, 1, 2, 3, 4);
        list(x, 0, "b 1; a 1; d 1; c 1;");
        x.run();
        sawIs("in falling order", x, 1, 4, 1, 2, 3, 4);
        list(x, 0, "b 1;");
        x.run();
        sawIs("one number", x, 1, 1, 4);
        list(x, 0, "");
        x.run();
        sawIs("no number", x, 1, 0);
        x.prime(HIGHEST);
        newWay(x, "one makes a; one pads a 60; one mixes a; one sends a;");
        for (int i = 2; i <= 60; i++) {
            is("sixty rise " + i, x.saw(1, i) >= x.saw(1, i - 1) ? 1 : 0, 1);
        }
    }

    private static void padsFewer() {
        says("III: pads: as long as it has fewer than N, a draw of hers comes behind the others");
        BothLists x = ready(101, "c 1; b 1; a 1;", "", "one makes a; one pads a 1; one pads a 2; one pads a 3; one sends a;");
        x.run();
        sawIs("it has as many or more", x, 1, 3, 21, 20, 19);
        int first = (int) draw(1, 1, 101);
        int second = (int) draw(1, 2, 101);
        newWay(x, "one makes a; one pads a 4; one sends a;");
        sawIs("it has one fewer", x, 1, 4, 21, 20, 19, first);
        newWay(x, "one makes a; one pads a 3; one pads a 4; one pads a 4; one pads a 5; one sends a;");
        sawIs("no draw is lost", x, 1, 5, 21, 20, 19, first, second);
        list(x, 0, "");
        newWay(x, "one makes a; one pads a 1; one sends a;");
        sawIs("an empty bag", x, 1, 1, first);
    }

    private static void padsDraws() {
        says("III: a draw of hers comes behind the others; SEEDS begin anew with each RUN");
        BothLists x = ready(101, "a 1;", "b 1;", "one makes a; one pads a 2; one sends a; two pads a 3; two makes b; two pads b 2;"
                + "two sends a; two sends b; one pads b 3; one sends b;");
        x.seed(0, 5);
        x.seed(1, 6);
        int one = (int) draw(5, 1, 101);
        int two = (int) draw(6, 1, 101);
        for (int run = 0; run < 3; run++) {
            x.run();
            sawIs("one, run " + run, x, 0, 3, 19, one, two, 2, 20, (int) draw(6, 2, 101));
            sawIs("two, run " + run, x, 1, 2, 19, one, 3, 20, (int) draw(6, 2, 101), (int) draw(5, 2, 101));
        }
        is("a run leaves the seed", x.seed(0, 5), 5);
    }

    private static void padsToSixty() {
        says("III: pads: as long as it has fewer than N");
        BothLists x = ready(HIGHEST, words(40, " 1;"), "", "one makes a; one pads a 59; one sends a; one pads a 60; one sends a;");
        x.run();
        is("how many", x.saw(1, -1), 60 + 61);
        is("59", x.saw(1, 0), 59);
        is("its last", x.saw(1, 59), draw(1, 19, HIGHEST));
        is("60", x.saw(1, 60), 60);
        is("its last of 60", x.saw(1, 120), draw(1, 20, HIGHEST));
        is("forty stay", x.saw(1, 100), x.number(0, 39));
    }

    private static void counts() {
        says("III: counts: it is how many there are, nothing else");
        BothLists x = ready(101, "a 1; b 1;", "c 1;", "one makes a; one sends a; one counts a; one sends a; two sends a; one sends a;");
        known(x, "a; b;");
        x.run();
        sawIs("two", x, 1, 2, 19, 20, -1, 2, -1, 2);
        sawIs("one gets the count back", x, 0, -1, 2);
        is("bytes", x.cost(1), 8 + 4 + 4 + 4);
        is("nothing of it is read", x.read(0), 0);
        newWay(x, "one makes a; one pads a 60; one counts a; one sends a;");
        sawIs("of sixty", x, 1, -1, 60);
        list(x, 0, "");
        newWay(x, "one makes a; one counts a; one sends a;");
        sawIs("of none", x, 1, -1, 0);
        is("four bytes of none", x.cost(1), 4);
    }

    // ---- meets and sums

    private static void meetsHowMany() {
        says("III: her OUT is how many places of the first bag these are");
        BothLists x = ready(5, "a 1; e 1;", "b 1; i 1; a 1;", "one makes a; one sends a; two makes b; two sends b; one meets a b; two meets b a;");
        x.run();
        outIs("two names of one number", x, 0, 1, 2);
        placesAre("of one", x, 0, 1, 1);
        outIs("of two", x, 1, 1, 2);
        placesAre("of two", x, 1, 0, 1, 1);
        newWay(x, "one makes a; one sends a; two makes b; two sends b; one meets b a; two meets a b;");
        outIs("of the first bag, one", x, 0, 0, 2);
        outIs("of the first bag, two", x, 1, 0, 2);
        list(x, 1, "a 1;");
        newWay(x, "one makes a; one sends a; two makes b; two meets b a; two sends b; one meets b a;");
        outIs("one place, though the second has two", x, 1, 1, 1);
        outIs("and not hers", x, 0, 0, 1);
        newWay(x, "one makes a; one meets a a;");
        outIs("a bag with itself", x, 0, 1, 2);
        newWay(x, "one makes a; one makes b; one meets a b; two makes a; two makes b; two meets a b;");
        outIs("two of her own", x, 1, 1, 1);
        list(x, 0, "");
        newWay(x, MEETING + "two sends b; one meets a b;");
        outIs("an empty second bag", x, 1, 1, 0);
        placesAre("an empty second bag", x, 1, 0);
        outIs("an empty first bag", x, 0, 1, 0);
        placesAre("an empty first bag", x, 0);
    }

    private static void meetsByAllPrimes() {
        says("III: meets: of the first bag the numbers that the second one has, too");
        for (int p : new int[] {31, 59, 61, 67, 101, 131, 65537, HIGHEST}) {
            BothLists x = ready(p, "a 1; c 1; e 1; z 1;", "a 1; b 1; z 1; c 1; f 1;", MEETING + "two sends b; one meets a b;");
            x.run();
            outIs("two by " + p, x, 1, 1, 3);
            placesAre("two by " + p, x, 1, 1, 0, 1, 1, 0);
            outIs("one by " + p, x, 0, 1, 3);
            placesAre("one by " + p, x, 0, 1, 1, 0, 1);
        }
        // Numbers that are 64 apart are not one, though they leave the same rest by 64.
        BothLists y = ready(2999, "a 1;", "b 1;", "one makes a; one turns a; one sends a; two makes b; two meets b a;");
        y.turning(0, PLUS, 65);
        y.run();
        is("64 apart", y.saw(1, 1) - y.number(1, 0), 64);
        outIs("is not met", y, 1, 1, 0);
        y.turning(0, PLUS, 1);
        y.run();
        outIs("b is", y, 1, 1, 1);
    }

    private static void meetsNoMoreOfEarlierRuns() {
        says("17: A RUN");
        for (int p : new int[] {59, 101}) {
            BothLists x = ready(p, "a 1; b 1; c 1;", "c 1; b 1; a 1;", MEETING + "two sends b; one meets a b;");
            known(x, "a; b; c;");
            x.run();
            outIs("three", x, 1, 1, 3);
            list(x, 0, "d 1;");
            x.run();
            outIs("two meets d alone", x, 1, 1, 0);
            is("nobody else is read", x.read(1), 0);
            list(x, 1, "d 1;");
            x.run();
            outIs("d", x, 1, 1, 1);
            placesAre("d", x, 1, 1);
            sawIs("d", x, 1, 1, x.number(0, 0));
            is("cost", x.cost(1), 8);
            newWay(x, "one makes a;");
            is("no out is left", x.out(1, 0), NONE);
            is("no kind is left", x.out(1, 1), NONE);
            is("no place is left", x.out(1, 10), NONE);
            sawIs("nothing is left", x, 1);
            is("no cost is left", x.cost(1), 0);
            is("nothing is left to read", x.read(1), 0);
        }
    }

    private static void meetsMadeByHer() {
        says("III: if that was made by her (a copy that came back, too)");
        BothLists x = ready(101, "b 1; a 1;", "a 1; b 1; c 1;", "one makes a; one meets a a;");
        x.run();
        outIs("made by her", x, 0, 1, 2);
        newWay(x, "one makes a; one sends a; two sends a; one meets a a;");
        outIs("came back", x, 0, 1, 2);
        newWay(x, "one makes a; one sends a; two sends a; one sends a; two turns a; two sends a; one meets a a;");
        outIs("came back two times", x, 0, 1, 2);
        newWay(x, "one makes a; one sends a; two meets a a;");
        outIs("made by the other one", x, 1, 0, 2);
        newWay(x, "one makes a; two makes a; one sends a; two meets a a;");
        outIs("in place of hers", x, 1, 0, 2);
        newWay(x, "one makes a; two makes a; one sends a; two sends a; one meets a a; two meets a a;");
        outIs("and back", x, 0, 1, 2);
        outIs("two has one's", x, 1, 0, 2);
        newWay(x, "two makes a; one makes a; two sends a; one meets a a; one sends a; two meets a a;");
        outIs("one has two's", x, 0, 0, 3);
        outIs("two has her own", x, 1, 1, 3);
        newWay(x, "one makes a; two makes b; two sends b; one meets b a; one meets a b;");
        outIs("the first bag tells", x, 0, 1, 2);
    }

    private static void meetsMixed() {
        says("III: and neither it nor what it was copied from was mixed");
        BothLists x = ready(101, "b 1; a 1;", "a 1;", "one makes a; one mixes a; one meets a a;");
        x.run();
        outIs("it", x, 0, 0, 2);
        placesAre("it", x, 0);
        newWay(x, "one makes a; one mixes a; one sends a; two sends a; one meets a a;");
        outIs("what it was copied from", x, 0, 0, 2);
        newWay(x, "one makes a; one sends a; two mixes a; two sends a; one meets a a;");
        outIs("on its way", x, 0, 0, 2);
        newWay(x, "one makes a; one sends a; two mixes a; one meets a a;");
        outIs("a copy alone", x, 0, 1, 2);
        newWay(x, "one makes a; one makes b; one mixes b; one meets a b;");
        outIs("the second bag", x, 0, 1, 2);
        newWay(x, "one makes a; one mixes a; one turns a; one pads a 5; one meets a a;");
        outIs("mixed once", x, 0, 0, 5);
        list(x, 0, "a 1;");
        newWay(x, "one makes a; one mixes a; one meets a a;");
        outIs("though nothing changed by it", x, 0, 0, 1);
        list(x, 0, "");
        newWay(x, "one makes a; one mixes a; one meets a a;");
        outIs("an empty one, too", x, 0, 0, 0);
        list(x, 0, "b 1; a 1;");
        newWay(x, "one makes a; one sends a; one mixes a; two sends a; one meets a a;");
        outIs("a copy made ahead of it", x, 0, 1, 2);
        newWay(x, "two makes a; two mixes a; one makes b; two sends a; one meets b a;");
        outIs("the other one's", x, 0, 1, 1);
        newWay(x, "one makes a; one mixes a;");
        newWay(x, "one makes a; one meets a a;");
        outIs("a run ahead of this one", x, 0, 1, 2);
    }

    private static void meetsPaddedAside() {
        says("III: which places (of her LIST; padded ones aside)");
        BothLists x = ready(101, "b 1; a 1;", "", "one makes a; one pads a 5; one meets a a;");
        x.run();
        outIs("how many places of the bag", x, 0, 1, 5);
        placesAre("of her list", x, 0, 1, 1);
        newWay(x, "one makes a; one pads a 5; one makes b; one meets a b;");
        outIs("without the padded ones", x, 0, 1, 2);
        newWay(x, "one makes a; one sends a; two pads a 6; two sends a; one meets a a;");
        outIs("padded by the other one", x, 0, 1, 6);
        placesAre("padded by the other one", x, 0, 1, 1);
        list(x, 0, "");
        newWay(x, "one makes a; one pads a 3; one meets a a;");
        outIs("of nobody", x, 0, 1, 3);
        placesAre("of nobody", x, 0);
        newWay(x, "one makes a; one pads a 3; one sums a a;");
        outIs("no dowry of nobody", x, 0, 2, 0);
    }

    private static void meetsLargest() {
        says("I: at most 40; pads 1 .. 60");
        BothLists x = ready(HIGHEST, words(40, " 9999;"), words(40, " 1;"), "one makes a; one pads a 60; one turns a; one meets a a;");
        x.run();
        outIs("sixty places", x, 0, 1, 60);
        is("place 39", x.out(0, 49), 1);
        is("no place 40", x.out(0, 50), NONE);
        is("no place 59", x.out(0, 69), NONE);
        newWay(x, "one makes a; one pads a 60; one sums a a;");
        outIs("the highest sum", x, 0, 2, 40 * 9999);
        newWay(x, "one makes a; one pads a 60; one mixes a; one sends a; two makes b; two pads b 60; two meets b a;");
        outIs("all of them by both", x, 1, 1, 60);
        is("place 39 of two", x.out(1, 49), 1);
        newWay(x, "one makes a;" + "one pads a 60;" + "one sends a;".repeat(28));
        is("the longest row", x.saw(1, -1), 28 * 61);
        is("its last", x.saw(1, 28 * 61 - 1), draw(1, 20, HIGHEST));
        is("none behind it", x.saw(1, 28 * 61), NOT_SEEN);
    }

    private static void sums() {
        says("III: sums: her OUT is the sum of the DOWRIES of these places of her LIST alone");
        BothLists x = ready(101, "a 1; b 20; c 300; d 4000;", "b 5; d 5;", "one makes a; two makes b; two sends b; one sums a b;");
        x.run();
        outIs("b and d", x, 0, 2, 4020);
        placesAre("a sum tells none", x, 0);
        list(x, 1, "z 1;");
        x.run();
        outIs("nobody", x, 0, 2, 0);
        list(x, 1, "");
        x.run();
        outIs("an empty second bag", x, 0, 2, 0);
        list(x, 0, "a 0; b 0;");
        list(x, 1, "a 7;");
        x.run();
        outIs("a dowry of 0", x, 0, 2, 0);
        list(x, 0, "a 9999;");
        x.run();
        outIs("a dowry of 9999", x, 0, 2, 9999);
        newWay(x, "one makes a; one pads a 60; one sums a a;");
        outIs("padded ones aside", x, 0, 2, 9999);
        x.prime(5);
        list(x, 0, "a 5; e 6;");
        newWay(x, "one makes a; two makes b; two sends b; one sums a b;");
        outIs("two names of one number", x, 0, 2, 11);
        comes(x, 0, 0, "z 100");
        goes(x, 0, 0, "a");
        x.run();
        outIs("dowries as they were told", x, 0, 2, 11);
    }

    private static void sumsWithoutPlaces() {
        says("III: (0 if the first bag is none by which places are told)");
        BothLists x = ready(101, "a 1; b 20;", "a 300; b 4000;", "one makes a; one sends a; two makes b; two sums a b;");
        x.run();
        outIs("made by the other one", x, 1, 2, 0);
        newWay(x, "one makes a; one mixes a; one sums a a;");
        outIs("mixed", x, 0, 2, 0);
        newWay(x, "one makes a; one sends a; two mixes a; two sends a; one sums a a;");
        outIs("mixed on its way", x, 0, 2, 0);
        newWay(x, "one makes a; one sends a; two sends a; one sums a a;");
        outIs("came back", x, 0, 2, 21);
    }

    private static void laterOut() {
        says("III: A later OUT stands in place of an earlier one");
        BothLists x = ready(101, "a 1; b 20;", "b 5; c 6;", MEETING + "two sums b a; two meets a b;");
        x.run();
        outIs("a meeting", x, 1, 0, 1);
        is("without places", x.out(1, 10), NONE);
        newWay(x, MEETING + "two meets a b; two meets b a;");
        outIs("with places", x, 1, 1, 1);
        placesAre("with places", x, 1, 1, 0);
        newWay(x, MEETING + "two sums b a;");
        outIs("a sum", x, 1, 2, 5);
        newWay(x, MEETING + "two sums b a; two sums a b;");
        outIs("a sum of none", x, 1, 2, 0);
        newWay(x, MEETING + "two sends b; one meets a b; two makes c; two sums c a;");
        outIs("each side has her own", x, 0, 1, 1);
        outIs("and the other one hers", x, 1, 2, 5);
    }

    // ---- promises 18 to 20

    private static void outEdges() {
        says("18: NONE without; 10 + i: (NONE unless places are told, or none such). RANGE: no such SIDE");
        BothLists x = ready(101, "a 1;", words(40, " 1;"), MEETING);
        x.run();
        is("place 0", x.out(1, 10), 0);
        is("place 39", x.out(1, 49), 0);
        for (int what : new int[] {50, 51, 74, MOST, 2, 3, 9, -1, -10, LEAST}) {
            is("none such " + what, x.out(1, what), NONE);
        }
        for (int what : new int[] {0, 1, 10, 49, 50, 2, -1, LEAST, MOST}) {
            is("one has none " + what, x.out(0, what), NONE);
            for (int side : NO_SIDES) {
                is("side " + side, x.out(side, what), RANGE);
            }
        }
        newWay(x, MEETING + "two meets a b;");
        is("how many alone", x.out(1, 1), 0);
        is("no places are told", x.out(1, 10), NONE);
        newWay(x, MEETING + "two sums b a;");
        is("a sum", x.out(1, 1), 2);
        is("no places are told of it", x.out(1, 10), NONE);
    }

    private static void outState() {
        says("18: STATE: nothing was RUN");
        BothLists x = ready(101, "a 1;", "b 1;", MEETING);
        for (int side = 0; side < 2; side++) {
            for (int what : new int[] {0, 1, 2, 10, 50, -1}) {
                is("side " + side + " what " + what, x.out(side, what), STATE);
            }
        }
        is("RANGE ahead of it", x.out(2, 0), RANGE);
        is("of a new object", new BothLists().out(0, 0), STATE);
    }

    private static void sawRow() {
        says("III: SAW: all bags that were sent to a SIDE, one behind the other: of each how many numbers, then they; of a counted one -1, and how many");
        BothLists x = ready(101, "b 1; a 1;", "z 1;", "one makes a; one makes b; one makes c; one counts c; one sends c; one sends a; one mixes b;"
                + "one sends b; two makes h; two sends h; one sends c; two sends c;");
        x.run();
        sawIs("two", x, 1, -1, 2, 2, 20, 19, 2, 19, 20, -1, 2);
        sawIs("one", x, 0, 1, 44, -1, 2);
        list(x, 1, "");
        newWay(x, "two makes a; two sends a; two sends a; two makes b; two pads b 1; two sends b;");
        sawIs("empty ones, too", x, 0, 0, 0, 1, (int) draw(1, 1, 101));
        sawIs("nothing was sent to her", x, 1);
    }

    private static void sawEdges() {
        says("19: -9: none such SIDE, i, or nothing was RUN");
        BothLists x = ready(101, "a 1; b 1;", "", MEETING);
        for (int i : new int[] {-1, 0, 1}) {
            is("nothing was run, " + i, x.saw(1, i), NOT_SEEN);
        }
        x.run();
        is("how many", x.saw(1, -1), 3);
        is("the last", x.saw(1, 2), 20);
        for (int i : new int[] {3, 4, 1829, 1830, MOST, -2, -9, LEAST}) {
            is("no " + i, x.saw(1, i), NOT_SEEN);
        }
        is("of nothing how many", x.saw(0, -1), 0);
        is("of nothing the first", x.saw(0, 0), NOT_SEEN);
        for (int side : NO_SIDES) {
            is("side " + side, x.saw(side, 0), NOT_SEEN);
            is("side " + side + ", how many", x.saw(side, -1), NOT_SEEN);
        }
    }

    private static void cost() {
        says("20: What 0: COST, 1: BYTES; NONE for another what; STATE: nothing was RUN");
        BothLists x = ready(101, "a 1; b 1;", "c 1;", "one makes a; one mixes a; one pads a 3; one meets a a; one counts a;");
        is("nothing was run", x.cost(0), STATE);
        is("nothing was run, bytes", x.cost(1), STATE);
        x.run();
        is("no turning", x.cost(0), 0);
        is("nothing sent", x.cost(1), 0);
        for (int what : new int[] {2, -1, 10, LEAST, MOST}) {
            is("what " + what, x.cost(what), NONE);
        }
        newWay(x, "one makes a; one turns a; one sends a; two turns a; two sends a; one pads a 60; one turns a; one counts a; one sends a;");
        is("turnings", x.cost(0), 2 + 2 + 60);
        is("bytes", x.cost(1), 8 + 8 + 4);
        newWay(x, "one makes a; one pads a 60;" + "one turns a;".repeat(28));
        is("the most turnings", x.cost(0), 28 * 60);
        newWay(x, "one makes a; one pads a 60;" + "one sends a;".repeat(28));
        is("the most bytes", x.cost(1), 28 * 240);
    }

    // ---- what ends a run, and what leaves it

    private static BothLists met() {
        BothLists x = ready(11, "a 1; b 2;", "b 3; c 4;", MEETING + "two sends b;");
        known(x, "a; b; c;");
        x.run();
        return x;
    }

    private static void runIs(String what, BothLists x, boolean isThere) {
        is(what + ", out", x.out(1, 0), isThere ? 1 : STATE);
        is(what + ", saw", x.saw(0, 1), isThere ? 10 : NOT_SEEN);
        is(what + ", cost", x.cost(0), isThere ? 0 : STATE);
        is(what + ", bytes", x.cost(1), isThere ? 16 : STATE);
        is(what + ", agree", x.agree(0, 2), isThere ? 1 : STATE);
        is(what + ", read", x.read(0), isThere ? 6 : STATE);
    }

    private static void gone() {
        says("4, 5, 7, 10, 12, 16: What was RUN is gone");
        for (int call = 0; call < 8; call++) {
            BothLists x = met();
            runIs("ahead of " + call, x, true);
            int answer = switch (call) {
                case 0 -> list(x, 0, "a 1; b 2;");
                case 1 -> list(x, 1, "b 3; c 4;");
                case 2 -> way(x, MEETING + "two sends b;");
                case 3 -> x.prime(11);
                case 4 -> x.turning(0, POWER, 1);
                case 5 -> x.turning(1, POWER, 1);
                case 6 -> x.seed(0, 1);
                default -> x.seed(1, 1);
            };
            is("taken " + call, answer >= 1 ? 1 : 0, 1);
            runIs("behind " + call, x, false);
            is("surely", x.surely(0, 0), STATE);
            x.run();
            runIs("run again " + call, x, true);
        }
        BothLists x = met();
        spelling(x, "");
        is("spelling, out", x.out(1, 0), STATE);
        is("spelling, saw", x.saw(0, 1), NOT_SEEN);
        is("spelling, cost", x.cost(0), STATE);
        is("spelling, agree", x.agree(0, 0), STATE);
        is("spelling, read", x.read(0), STATE);
    }

    private static void left() {
        says("4 to 16: a call that is refused, and calls that don't say that it is gone");
        for (int call = 0; call < 18; call++) {
            BothLists x = met();
            switch (call) {
                case 0 -> spelling(x, "?");
                case 1 -> list(x, 0, "?");
                case 2 -> list(x, 2, "");
                case 3 -> known(x, "?");
                case 4 -> known(x, "a; b; c;");
                case 5 -> way(x, "?");
                case 6 -> key(x, "a", 0);
                case 7 -> x.prime(12);
                case 8 -> x.turning(0, POWER, 2);
                case 9 -> x.turning(2, POWER, 1);
                case 10 -> x.seed(0, -1);
                case 11 -> x.seed(2, 1);
                case 12 -> comes(x, 0, 0, "z 1");
                case 13 -> goes(x, 0, 0, "a");
                case 14 -> Put.text(x, "abc");
                case 15 -> x.agree(1, 0);
                case 16 -> x.unlike();
                default -> x.run();
            }
            runIs("left by " + call, x, true);
        }
    }

    // ---- promises 21 and 22

    private static void agreeKeyNumbers() {
        says("III: of all LISTS of the other one from THE KNOWN and all KEY NUMBERS of her kind");
        int[][] keyNumbers = {{5, 2, 4, 4}, {7, 2, 6, 6}, {11, 4, 10, 10}, {13, 4, 12, 12}, {59, 28, 58, 58}};
        for (int[] row : keyNumbers) {
            for (int kind = 0; kind < 3; kind++) {
                for (int own = 0; own < 3; own++) {
                    BothLists x = ready(row[0], "a 1;", "b 1;", "one makes a;");
                    known(x, "a; b;");
                    x.turning(1, kind, 1);
                    x.turning(0, own, 1);
                    x.run();
                    is("kind " + kind + " by " + row[0], x.agree(0, 1), 4 * row[1 + kind]);
                    is("kind " + own + " for the other one", x.agree(1, 1), 4 * row[1 + own]);
                }
            }
        }
        // One name of two: each shows what was seen by one key number, by PLUS 0 .. P - 2 and by TIMES 1 .. P - 1.
        for (int k = 0; k <= 4; k++) {
            for (int kind = TIMES; kind <= PLUS; kind++) {
                BothLists x = ready(5, "", "a 1;", "two makes a; two turns a; two sends a;");
                known(x, "a; b; c; d;");
                if (x.turning(1, kind, k) == 1) {
                    x.run();
                    is("each of four", x.agree(0, 0), 4);
                    is("by one key number", x.agree(0, 1), 4);
                }
            }
        }
    }

    private static void agreeOrder() {
        says("III: (subsets, in THE KNOWN's order, DOWRIES 1)");
        BothLists x = ready(11, "", "b 1; a 1;", "two makes a; two sends a;");
        known(x, "a; b;");
        x.run();
        is("10, 9 is seen, 9, 10 would be", x.agree(0, 0), 0);
        known(x, "b; a;");
        is("in this order it agrees", x.agree(0, 0), 1);
        is("both of them", x.agree(0, 3), 3);
        known(x, "b; c; a;");
        is("with one between them", x.agree(0, 3), 5);
        newWay(x, "two makes a; two mixes a; two sends a;");
        known(x, "a; b;");
        is("in rising order any order", x.agree(0, 3), 3);
        list(x, 0, "a 7; b 8;");
        newWay(x, "one makes a; two makes b; two sends b; one sums a b;");
        known(x, "b; a; c;");
        is("her own dowries are as they are", x.agree(0, 3), 3);
    }

    private static void agreeSeeds() {
        says("III: (her own LIST, key and all seeds as they are)");
        // By 11 the first draw of 1 is 5, which is g.
        BothLists x = ready(11, "", "", "two makes a; two pads a 1; two sends a;");
        known(x, "a; g;");
        x.run();
        sawIs("one", x, 0, 1, 5);
        is("nobody and a draw, or g", x.agree(0, 0), 2);
        is("the least is nobody", x.agree(0, 3), 0);
        x.seed(1, 2);
        x.run();
        is("another draw", x.saw(0, 1), draw(2, 1, 11));
        is("nobody alone", x.agree(0, 0), 1);
        x.seed(1, 1);
        list(x, 0, "a 1;");
        x.turning(0, PLUS, 1);
        newWay(x, "one makes a; one turns a; one pads a 2; one sends a; two sends a;");
        sawIs("one gets her own", x, 0, 2, 10, 5);
        is("all lists", x.agree(0, 0), 4);
        is("all pairs", x.agree(0, 1), 16);
        newWay(x, "one makes a; one turns a; one sends a; two turns a; two sends a; one pads a 2;");
        is("every power keeps 10", x.agree(0, 1), 16);
    }

    private static void agreeNone() {
        says("21: 2: 1 if EVEN, else 0 (1 if none agrees), 3: the least LIST that agrees, as bits of THE KNOWN (NONE)");
        BothLists x = ready(11, "", "d 1;", "two makes a; two sends a;");
        for (String text : new String[] {"", "a;", "a; b; c;"}) {
            known(x, text);
            x.run();
            is("no list", x.agree(0, 0), 0);
            is("no pair", x.agree(0, 1), 0);
            is("even", x.agree(0, 2), 1);
            is("no least", x.agree(0, 3), NONE);
        }
        known(x, "");
        is("the empty list is one, too", x.agree(1, 0), 1);
        is("least", x.agree(1, 3), 0);
        known(x, "a; b; c; e; f; g; h; d;");
        is("the eighth", x.agree(0, 3), 128);
        is("all of 256", x.agree(1, 0), 256);
    }

    private static void agreeEdges() {
        says("21: RANGE: no such SIDE, what; STATE: nothing was RUN, or P is above 60");
        BothLists x = ready(59, "a 1;", "b 1;", MEETING);
        known(x, "a; b;");
        for (int what = 0; what <= 3; what++) {
            is("nothing was run", x.agree(0, what), STATE);
            is("of a new object", new BothLists().agree(1, what), STATE);
        }
        x.run();
        is("59", x.agree(1, 3), 1);
        for (int side : NO_SIDES) {
            is("side " + side, x.agree(side, 0), RANGE);
        }
        for (int what : new int[] {-1, 4, LEAST, MOST}) {
            is("what " + what, x.agree(0, what), RANGE);
        }
        for (int p : new int[] {61, 101, HIGHEST}) {
            x.prime(p);
            is("nothing was run by " + p, x.agree(0, 0), STATE);
            x.run();
            is("by " + p, x.agree(0, 0), STATE);
            is("what 4 by " + p, x.agree(0, 4), RANGE);
            is("side 2 by " + p, x.agree(2, 0), RANGE);
        }
        is("what 4, nothing was run", new BothLists().agree(0, 4), RANGE);
        is("side 2, nothing was run", new BothLists().agree(2, 0), RANGE);
    }

    private static void agreeLeavesTheRun() {
        says("21: AGREE for a SIDE");
        BothLists x = ready(11, "a 1; b 20;", "b 3; c 4;", MEETING + "two turns a; two sends b; one sums a b;");
        x.turning(1, PLUS, 3);
        known(x, "a; b; c; d;");
        x.run();
        for (int side = 0; side < 2; side++) {
            for (int what = 0; what < 4; what++) {
                x.agree(side, what);
                x.surely(side, what);
            }
        }
        outIs("one", x, 0, 2, 20);
        outIs("two", x, 1, 1, 1);
        placesAre("two", x, 1, 1, 0);
        sawIs("one", x, 0, 2, 10, 1);
        sawIs("two", x, 1, 2, 9, 10);
        is("cost", x.cost(0), 2);
        is("bytes", x.cost(1), 16);
        is("turning", x.turned(1, 1, false), 4);
        is("list", x.count(1), 2);
        is("dowries", x.size(1, 0, 1), 7);
    }

    private static void agreeEven() {
        says("III: EVEN: all of these have as many KEY NUMBERS");
        // By 11 c is 1, which every power keeps, and d is 2, which 2 to the 1, 3, 7 and 9 turns into 2, 8, 7, 6.
        BothLists x = ready(11, "", "c 1;", "two makes a; two turns a; two pads a 1; two sends a;");
        known(x, "c; d; g;");
        x.run();
        is("c by four powers", x.agree(0, 1), 4);
        is("one list is even", x.agree(0, 2), 1);
        // The first draw is 5: g, which is 5, by power 1; nobody by all four.
        list(x, 1, "");
        x.run();
        sawIs("one", x, 0, 1, 5);
        is("nobody and g", x.agree(0, 0), 2);
        is("four and one", x.agree(0, 1), 5);
        is("are not even", x.agree(0, 2), 0);
        is("nobody is the least", x.agree(0, 3), 0);
        known(x, "g; c; d;");
        is("nor the other way round", x.agree(0, 2), 0);
    }

    private static void agreeOfShorterTexts() {
        says("21: AGREE for a SIDE");
        BothLists x = ready(11, "a 1;", "b 1;", "");
        String longer = "two makes a; two sends a; two makes b; two sends b;";
        for (int i = 0; i < 3; i++) {
            newWay(x, longer);
            known(x, "a; b; j;");
            is("both bags of b", x.agree(0, 0), 1);
        }
        for (int i = 0; i < 3; i++) {
            newWay(x, "two makes a;");
            known(x, "a; b; c;");
            is("nothing was seen", x.agree(0, 0), 8);
            newWay(x, "two makes a; two sends a;");
            is("b was seen", x.agree(0, 3), 2);
            known(x, "b;");
            is("b was seen of one known", x.agree(0, 3), 1);
            is("of one known even", x.agree(0, 2), 1);
        }
        // Nobody by four powers and g by one are not even; then the second known is gone, and nobody alone agrees.
        list(x, 1, "");
        newWay(x, "two makes a; two turns a; two pads a 1; two sends a;");
        known(x, "c; g;");
        is("not even", x.agree(0, 2), 0);
        known(x, "c;");
        is("even then", x.agree(0, 2), 1);
    }

    private static void agreeOfLongestTexts() {
        says("I: at most 8 WORDS that are talked of; at most 30 LINES; pads 1 .. 60");
        BothLists x = ready(5, "", "", "two makes a; two pads a 60;" + "two turns a;".repeat(27) + "two sends a;");
        known(x, "a; b; c; d; e; f; g; h;");
        x.turning(1, PLUS, 3);
        x.run();
        is("the longest row", x.saw(0, -1), 61);
        is("nobody agrees", x.agree(0, 3), 0);
        is("for the other one all lists", x.agree(1, 0), 256);
        is("by all key numbers", x.agree(1, 1), 256 * 2);
        is("even", x.agree(1, 2), 1);
        is("the eighth", x.surely(1, 7), 2);
    }

    private static void surely() {
        says("III: SURELY of one KNOWN: 1 it is on all LISTS that AGREE, 0 on none, 2 else");
        // By 5 a and e are 3, b is 4, c is 1.
        BothLists x = ready(5, "", "a 1; c 1;", "two makes a; two sends a;");
        known(x, "a; b; e; c;");
        x.run();
        is("a and c, or e and c", x.agree(0, 0), 2);
        is("a perhaps", x.surely(0, 0), 2);
        is("b not", x.surely(0, 1), 0);
        is("e perhaps", x.surely(0, 2), 2);
        is("c surely", x.surely(0, 3), 1);
        is("two knows nothing", x.surely(1, 3), 2);
        known(x, "a; b; c;");
        is("one list alone: a", x.surely(0, 0), 1);
        is("one list alone: b", x.surely(0, 1), 0);
        list(x, 1, "");
        x.run();
        is("the empty list alone", x.surely(0, 2), 0);
    }

    private static void surelyEdges() {
        says("22: NONE: no LIST agrees; RANGE; STATE as for agree()");
        BothLists x = ready(11, "", "d 1;", "two makes a; two sends a;");
        is("nothing known", x.surely(0, 0), RANGE);
        known(x, "a; b; c; e; f; g; h; i;");
        is("nothing was run", x.surely(0, 0), STATE);
        is("no ninth, nothing was run", x.surely(0, 8), RANGE);
        x.run();
        is("no list agrees", x.surely(0, 0), NONE);
        is("nor for the last", x.surely(0, 7), NONE);
        for (int i : new int[] {8, -1, LEAST, MOST}) {
            is("known " + i, x.surely(0, i), RANGE);
        }
        for (int side : NO_SIDES) {
            is("side " + side, x.surely(side, 0), RANGE);
        }
        is("for the other one all agree", x.surely(1, 7), 2);
        known(x, "");
        is("nothing known again", x.surely(1, 0), RANGE);
        known(x, "d;");
        is("the known as it is then", x.surely(0, 0), 1);
        x.prime(61);
        x.run();
        is("P above 60", x.surely(0, 0), STATE);
        is("P above 60, known 1", x.surely(0, 1), RANGE);
        x.prime(59);
        x.run();
        is("P 59", x.surely(0, 0), 1);
    }

    // ---- promise 23

    private static void readTimes() {
        says("III: turned by it none, one or two times");
        // By 101 a .. h are 19 .. 26; one sends 22, which is d.
        BothLists x = ready(101, "d 1;", "", "one makes a; one sends a;");
        known(x, "a; b; c; d; e; f; g; h;");
        for (int k = 0; k <= 4; k++) {
            x.turning(1, PLUS, k);
            x.run();
            int due = 1 << 3 | (k <= 3 ? 1 << 3 - k : 0) | (2 * k <= 3 ? 1 << 3 - 2 * k : 0);
            is("plus " + k, x.read(1), due);
        }
        x.turning(1, PLUS, 1);
        x.turning(0, PLUS, 2);
        x.run();
        is("by her own turning", x.read(1), 2 + 4 + 8);
        is("nothing was sent to one", x.read(0), 0);
        // 26 goes around: 22 is 26 and 96.
        x.turning(1, PLUS, 96);
        x.run();
        is("around", x.read(1), 8 + 128);
    }

    private static void readBags() {
        says("III: is in a bag that the other SIDE sent");
        BothLists x = ready(101, "a 1; b 1;", "c 1; d 1;", "one makes a; one sends a; two makes b; two sends b; two makes c; two counts c; two sends c;");
        known(x, "a; b; c; d;");
        x.run();
        is("with two's turning what one sent", x.read(1), 1 + 2);
        is("with one's turning what two sent", x.read(0), 4 + 8);
        newWay(x, "one makes a; one sends a; two sends a;");
        is("what was sent back", x.read(0), 1 + 2);
        newWay(x, "one makes a; one counts a; one sends a;");
        is("a count is none", x.read(1), 0);
        newWay(x, "one makes a;");
        is("what was not sent is none", x.read(1), 0);
        list(x, 0, "");
        newWay(x, "one makes a; one sends a; one makes b; one pads b 2; one sends b; one makes c; one counts c; one sends c; two makes d; two sends d;");
        is("bags of several sizes", x.read(1), 0);
        is("behind them", x.read(0), 4 + 8);
        // By 5 a bag of one is no 1, a bag of two no 2; a is 3, b is 4, c is 1, d is 2.
        x.prime(5);
        list(x, 0, "a 1;");
        newWay(x, "one makes a; one sends a; one counts a; one sends a;");
        is("how many is no number of it", x.read(1), 1);
        list(x, 0, "a 1; b 1;");
        newWay(x, "one makes b; one counts b; one sends b; one makes a; one sends a; one sends b;");
        is("nor of two", x.read(1), 1 + 2);
    }

    private static void readEdges() {
        says("23: READ with a SIDE's turning, as bits of THE KNOWN; RANGE; STATE: nothing was RUN");
        BothLists x = ready(101, "h 1;", "", "one makes a; one sends a;");
        is("nothing was run", x.read(0), STATE);
        is("side 2, nothing was run", x.read(2), RANGE);
        x.run();
        is("nothing known", x.read(1), 0);
        known(x, "a; b; c; d; e; f; g; h;");
        is("the eighth", x.read(1), 128);
        known(x, "h;");
        is("the known as it is then", x.read(1), 1);
        for (int side : NO_SIDES) {
            is("side " + side, x.read(side), RANGE);
        }
        x.prime(HIGHEST);
        x.run();
        is("by the highest", x.read(1), 1);
        is("of a new object", new BothLists().read(1), STATE);
    }
}
