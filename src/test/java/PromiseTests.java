/** For each promise of the document: ordinary inputs, the edges it names, and wrong inputs; answers worked out by hand. */
public final class PromiseTests extends Common {
    public static void main(String[] args) {
        begin("PromiseTests");
        newObject();
        feed();
        end();
        tapeIsEmptied();
        spelling();
        list();
        known();
        way();
        wayBags();
        fault();
        key();
        prime();
        number();
        turning();
        turned();
        fixed();
        unlike();
        seed();
        run();
        goneRuns();
        out();
        outPlaces();
        saw();
        cost();
        agree();
        agreeEdges();
        surely();
        read();
        thrown();
        strangers();
        cheapest();
        near();
        comes();
        goes();
        both();
        size();
        caught();
        opened();
        count();
        finish();
    }

    // ---- promises 1 to 9

    private static void newObject() {
        BothLists x = new BothLists();
        for (int what = 0; what <= 7; what++) {
            is("new count " + what, x.count(what), what == 5 ? 101 : 0);
        }
        is("new number", x.number(0, 0), RANGE);
        is("new known", x.number(2, 0), RANGE);
        is("new run", x.run(), STATE);
        is("new key", key(x, "aabb", -1), 4);
        is("new size", x.size(1, 400, 0), 0);
        is("new seed 0", x.seed(0, 5), 1);
        is("new seed 1", x.seed(1, 5), 1);
        is("new turned", x.turned(0, 100, false), 100);
        is("new turned back", x.turned(1, 77, true), 77);
    }

    private static void feed() {
        BothLists x = new BothLists();
        is("feed 20", x.feed(0x61626320, 0x20202020, 0x20202020, 0x20202020, 0x2020200A), 20);
        is("highest byte first", x.key(0), 'a');
        x.feed(0x20202020, 0x61202020, 0x20202020, 0x20202020, 0x20202020);
        is("second int", x.key(0), 'a');
        x.feed(0x20202020, 0x20202020, 0x20202020, 0x20202020, 0x2020207A);
        is("last byte", x.key(0), 'z');
        for (int i = 1; i <= 60; i++) {
            is("feed " + i, x.feed(0, -1, Integer.MIN_VALUE, i, i), 20 * i);
        }
        is("feed 61", x.feed(1, 2, 3, 4, 5), FULL);
        is("still 1200", x.count(7), 1200);
        x.end(1181);
        is("1201 are too many", x.feed(1, 2, 3, 4, 5), FULL);
        x.end(1180);
        is("1200 are not", x.feed(1, 2, 3, 4, 5), 1200);
    }

    private static void end() {
        BothLists x = new BothLists();
        is("end of nothing", x.end(0), 0);
        is("end 1 of nothing", x.end(1), NONE);
        x.feed(0x61626364, 0x65202020, 0x20202020, 0x20202020, 0x20202020);
        is("end 21", x.end(21), NONE);
        is("end -1", x.end(-1), NONE);
        is("end least", x.end(Integer.MIN_VALUE), NONE);
        is("nothing was cut", x.count(7), 20);
        is("end 20", x.end(20), 20);
        is("end 3", x.end(3), 3);
        is("end 4 then", x.end(4), NONE);
        is("key of what is left", x.key(-1), 3);
        is("key reads and empties", x.count(7), 0);
    }

    private static void tapeIsEmptied() {
        BothLists x = new BothLists();
        for (int call = 0; call < 12; call++) {
            Put.text(x, call < 6 ? "?" : "a");
            switch (call % 6) {
                case 0 -> x.spelling();
                case 1 -> x.list(call < 6 ? 0 : 2);
                case 2 -> x.known();
                case 3 -> x.way();
                case 4 -> x.comes(call < 6 ? 0 : -1, 0);
                default -> x.goes(0, call < 6 ? 0 : 401);
            }
            is("emptied by " + call, x.count(7), 0);
        }
    }

    private static void spelling() {
        BothLists x = new BothLists();
        is("no clause", spelling(x, ""), 0);
        is("blanks alone", spelling(x, " \n "), 0);
        is("four clauses", spelling(x, "same c k q;drop h e;double;first 4;"), 4);
        is("blanks between", spelling(x, "  same\nc k ;\n double ; first 010 ;"), 3);
        is("no blank is needed", spelling(x, "first3;drop a;"), 2);
        is("all letters", spelling(x, "same a b c d e f g h i j k l m n o p q r s t u v w x y z;"), 1);
        is("all dropped", spelling(x, "drop a b c d e f g h i j k l m n o p q r s t u v w x y z;"), 1);
        is("none is left", key(x, "az", -1), 0);
        spelling(x, "same a b c d e f g h i j k l m n o p q r s t u v w x y z;");
        is("no more letter", spelling(x, "same a b c d e f g h i j k l m n o p q r s t u v w x y z a;"), NONE);
        is("twice", x.fault(0), 3);
        is("there", x.fault(1), 57);
        is("it stays", x.count(4), 1);
        is("it stays so", key(x, "zzb", 2), 'a');
        list(x, 0, "a 1;");
        known(x, "b;");
        is("one name", list(x, 1, "b 1; c 2;"), NONE);
        list(x, 1, "b 1;");
        comes(x, 0, 3, "zz 1");
        spelling(x, "same a");
        is("with a fault the list stays", x.count(0), 1);
        is("with a fault the known stay", x.count(2), 1);
        is("emptied", spelling(x, ""), 0);
        for (int what = 0; what <= 6; what++) {
            is("emptied " + what, x.count(what), what == 5 ? 101 : 0);
        }
        badSpelling("same", 1, 4);
        badSpelling("same a;", 1, 6);
        badSpelling("same a b", 1, 8);
        badSpelling("same a b  ", 1, 10);
        badSpelling("same ab c;", 1, 5);
        badSpelling("same a 1;", 1, 7);
        badSpelling("drop;", 1, 4);
        badSpelling("drop a a;", 3, 7);
        badSpelling("drop z; same y z;", 3, 15);
        badSpelling("same a b; drop b;", 3, 15);
        badSpelling("same a b; same c a;", 3, 17);
        badSpelling("double a;", 1, 7);
        badSpelling("double; double;", 3, 8);
        badSpelling("first;", 1, 5);
        badSpelling("first 0;", 2, 6);
        badSpelling("first 11;", 2, 6);
        badSpelling("first 99999;", 2, 6);
        badSpelling("first 000001;", 1, 6);
        badSpelling("first 1; first 2;", 3, 9);
        badSpelling("first 1 2;", 1, 8);
        badSpelling(";", 1, 0);
        badSpelling("double;;", 1, 7);
        badSpelling("doubles;", 1, 0);
        badSpelling("Double;", 1, 0);
        badSpelling("double\t;", 1, 6);
        badSpelling("drop abcdefghijk;", 1, 5);
    }

    private static void list() {
        BothLists x = new BothLists();
        is("empty list", list(x, 0, ""), 0);
        is("two words", list(x, 0, "ann 0; bob 9999;"), 2);
        is("longest", list(x, 1, "abcdefghij 00001;"), 1);
        is("no blank is needed", list(x, 1, "a1;b2;"), 2);
        is("forty", list(x, 0, words(40, " 1;")), 40);
        is("side 2", list(x, 2, "a 1;"), RANGE);
        is("side -1", list(x, -1, "a 1;"), RANGE);
        is("41", list(x, 0, words(40, " 1;") + "zz 1;"), NONE);
        is("room", x.fault(0), 4);
        is("place of the 41st", x.fault(1), 40 * 5);
        is("it stays", x.count(0), 40);
        is("41st again one of them", list(x, 0, words(40, " 1;") + "aa 1;"), NONE);
        is("of one token the least", x.fault(0), 3);
        badList("a 10000;", 2, 2);
        badList("a 123456;", 1, 2);
        badList("abcdefghijk 1;", 1, 0);
        badList("a;", 1, 1);
        badList("a 1", 1, 3);
        badList("a 1 \n", 1, 5);
        badList("1 a;", 1, 0);
        badList("a 1; a 2;", 3, 5);
        badList("a 1;; b 2;", 1, 4);
        badList("a 1; B 2;", 1, 5);
        badList("a -1;", 1, 2);
        badList("a 1; a 99999;", 3, 5);
        spelling(x, "drop e;");
        is("no letter and no letter", list(x, 0, "a 1; e 2; ee 3;"), NONE);
        is("are one name", x.fault(1), 10);
    }

    private static void known() {
        BothLists x = new BothLists();
        is("none", known(x, ""), 0);
        is("eight", known(x, "a;b;c;d;e;f;g;h;"), 8);
        is("nine", known(x, "a;b;c;d;e;f;g;h; i;"), NONE);
        is("it stays", x.count(2), 8);
        badKnown("a;b;c;d;e;f;g;h; i;", 4, 17);
        badKnown("a;b;c;d;e;f;g;h; h;", 3, 17);
        badKnown("a;b;c;d;e;f;g;h; 1;", 1, 17);
        badKnown("a 1;", 1, 2);
        badKnown("a", 1, 1);
        badKnown("a; b; a;", 3, 6);
        BothLists y = ready(101, "a 1;", "a 1;", MEETING);
        y.run();
        known(y, "a;");
        is("what was run stays", y.out(1, 0), 1);
        is("the known after the run", y.read(1), 1);
    }

    private static void way() {
        BothLists x = new BothLists();
        is("none", way(x, ""), 0);
        is("four lines", way(x, MEETING), 4);
        is("pads", way(x, "one makes h;one pads h 1;one pads h 60;one sums h h;"), 4);
        StringBuilder thirty = new StringBuilder("one makes a;");
        for (int i = 1; i < 30; i++) {
            thirty.append("one turns a;");
        }
        is("thirty", way(x, thirty.toString()), 30);
        is("31", way(x, thirty + " one turns z;"), NONE);
        is("room", x.fault(0), 4);
        is("at its first word", x.fault(1), 361);
        is("31st is none", way(x, thirty + " three turns a;"), NONE);
        is("of one token the least", x.fault(0), 1);
        is("it stays", x.count(3), 30);
        badWay("three makes a;", 1, 0);
        badWay("one;", 1, 3);
        badWay("one makes;", 1, 9);
        badWay("one makes a", 1, 11);
        badWay("one makes a b;", 1, 12);
        badWay("one makes i;", 1, 10);
        badWay("one makes ab;", 1, 10);
        badWay("one makes 1;", 1, 10);
        badWay("one eats a;", 1, 4);
        badWay("one makes a; one pads a;", 1, 23);
        badWay("one makes a; one pads a b;", 1, 24);
        badWay("one makes a; one pads a 0;", 2, 24);
        badWay("one makes a; one pads a 61;", 2, 24);
        badWay("one makes a; one meets a;", 1, 24);
        badWay("one makes a; one meets a b;", 5, 25);
        badWay("one makes a; one sums b a;", 5, 22);
        badWay("one makes a; one turns b;", 5, 23);
    }

    private static void wayBags() {
        badWay("one makes a; one makes a;", 3, 23);
        badWay("one makes a; one sends a; two makes a;", 3, 36);
        badWay("one makes a; two turns a;", 5, 23);
        badWay("two sends a;", 5, 10);
        badWay("one makes a; one counts a; one counts a;", 6, 38);
        badWay("one makes a; one counts a; one turns a;", 6, 37);
        badWay("one makes a; one counts a; one mixes a;", 6, 37);
        badWay("one makes a; one counts a; one pads a 61;", 6, 36);
        badWay("one makes a; one makes b; one counts a; one meets b a;", 6, 52);
        badWay("one makes a; one makes b; one counts a; one sums a b;", 6, 49);
        badWay("one makes a; one counts a; one makes a;", 3, 37);
        badWay("one makes a; one counts a; one sends a; two sends a; two turns a;", 6, 63);
        BothLists x = new BothLists();
        is("a copy was made ahead of the count",
                way(x, "one makes a; one sends a; one counts a; two turns a; two sends a; one turns a;"), 6);
        is("a counted one comes in place", way(x, "two makes a; one makes a; one counts a; one sends a; two sends a;"), 5);
    }

    private static void fault() {
        BothLists x = new BothLists();
        is("ahead of any", x.fault(0), 0);
        is("ahead of any, place", x.fault(1), NONE);
        is("what 2", x.fault(2), NONE);
        is("what -1", x.fault(-1), NONE);
        list(x, 0, "a 1; a 1;");
        list(x, 2, "a 1; b 1;");
        is("RANGE leaves it", x.fault(0), 3);
        key(x, "?", 0);
        comes(x, 0, 0, "?");
        goes(x, 0, 0, "?");
        is("others leave it", x.fault(1), 5);
        is("what 2 with a fault", x.fault(2), NONE);
        known(x, "a;");
        is("a good one ends it", x.fault(0), 0);
        is("a good one ends its place", x.fault(1), NONE);
        way(x, "one");
        is("of the latest", x.fault(1), 3);
        spelling(x, "double 1;");
        is("of the latest again", x.fault(1), 7);
    }

    private static void key() {
        BothLists x = new BothLists();
        is("letter 0", key(x, "abc", 0), 'a');
        is("letter 2", key(x, " \nabc\n ", 2), 'c');
        is("no letter 3", key(x, "abc", 3), NONE);
        is("i -2", key(x, "abc", -2), NONE);
        is("i least", key(x, "abc", Integer.MIN_VALUE), NONE);
        is("i highest", key(x, "abc", Integer.MAX_VALUE), NONE);
        is("ten letters", key(x, "abcdefghij", 9), 'j');
        is("eleven letters", key(x, "abcdefghijk", -1), NONE);
        is("nothing", key(x, "", -1), NONE);
        is("two words", key(x, "a b", -1), NONE);
        is("word and ;", key(x, "a;", -1), NONE);
        is("number", key(x, "12", -1), NONE);
        is("other byte", key(x, "a\u00e9", -1), NONE);
        spelling(x, "first 3; double; drop h; same c k q;");
        is("drop ahead of double", key(x, "bhb", -1), 1);
        is("same ahead of double", key(x, "ckqa", -1), 2);
        is("same is its first", key(x, "qa", 0), 'c');
        is("double ahead of first", key(x, "aabbccdd", 2), 'c');
        is("first cuts", key(x, "abcd", -1), 3);
        is("no letter is left", key(x, "hhh", -1), 0);
        is("of none the first", key(x, "hhh", 0), NONE);
        is("alike apart stay", key(x, "aba", -1), 3);
    }

    // ---- promises 10 to 16

    private static void prime() {
        BothLists x = new BothLists();
        int[] bad = {4, 3, 2, 1, 0, -7, Integer.MIN_VALUE, 6, 9, 25, 91, 2147483646, 2147302921, 46341, 2147117569};
        for (int p : bad) {
            is("prime " + p, x.prime(p), RANGE);
        }
        is("P is as it was", x.count(5), 101);
        int[] good = {5, 7, 11, 97, 46337, 2147483629, 2147483647};
        for (int p : good) {
            is("prime " + p, x.prime(p), 1);
            is("count " + p, x.count(5), p);
        }
        x.prime(11);
        x.turning(0, 2, 3);
        x.turning(1, 1, 3);
        is("bad leaves the turnings", x.prime(12), RANGE);
        is("so", x.turned(0, 1, false), 4);
        x.prime(13);
        is("power with 1, one", x.turned(0, 12, false), 12);
        is("power with 1, two", x.turned(1, 2, false), 2);
        x.turning(1, 1, 3);
        x.prime(13);
        is("even the same prime", x.turned(1, 2, false), 2);
    }

    private static void number() {
        BothLists x = new BothLists();
        list(x, 0, "a 1; ab 2;");
        list(x, 1, "z 1;");
        known(x, "b; abc;");
        is("a", x.number(0, 0), 1 + (31 * 7 + 1) % 100);
        is("ab", x.number(0, 1), 1 + (31 * 18 + 2) % 100);
        is("z", x.number(1, 0), 1 + (31 * 7 + 26) % 100);
        is("b known", x.number(2, 0), 1 + (31 * 7 + 2) % 100);
        is("no word 2", x.number(0, 2), RANGE);
        is("no word -1", x.number(0, -1), RANGE);
        is("no known 2", x.number(2, 2), RANGE);
        is("no side 3", x.number(3, 0), RANGE);
        is("no side -1", x.number(-1, 0), RANGE);
        comes(x, 1, 0, "y 1");
        is("as they were told", x.number(1, 1), RANGE);
        x.prime(5);
        is("7 modulo 4 at first", x.number(0, 0), 1 + (31 * 3 + 1) % 4);
        x.prime(2147483647);
        list(x, 0, "zzzzzzzzzz 1;");
        long v = 7;
        for (int i = 0; i < 10; i++) {
            v = (31 * v + 26) % 2147483646L;
        }
        is("large", x.number(0, 0), 1 + v);
        spelling(x, "drop z;");
        list(x, 0, "z 1;");
        is("of no letter", x.number(0, 0), 8);
    }

    private static void turning() {
        BothLists x = new BothLists();
        x.prime(11);
        for (int k = -1; k <= 11; k++) {
            is("power " + k, x.turning(0, 0, k), k == 1 || k == 3 || k == 7 || k == 9 ? 1 : RANGE);
            is("times " + k, x.turning(0, 1, k), k >= 1 && k <= 10 ? 1 : RANGE);
            is("plus " + k, x.turning(0, 2, k), k >= 0 && k <= 9 ? 1 : RANGE);
        }
        is("kind 3", x.turning(0, 3, 1), RANGE);
        is("kind -1", x.turning(0, -1, 1), RANGE);
        is("side 2", x.turning(2, 0, 1), RANGE);
        is("side -1", x.turning(-1, 0, 1), RANGE);
        is("refused ones leave it", x.turned(0, 1, false), 10);
        x.prime(2147483647);
        is("power P - 2", x.turning(1, 0, 2147483645), 1);
        is("power P - 1", x.turning(1, 0, 2147483646), RANGE);
        is("times P - 1", x.turning(1, 1, 2147483646), 1);
        is("times P", x.turning(1, 1, 2147483647), RANGE);
        is("plus P - 2", x.turning(1, 2, 2147483645), 1);
        is("plus P - 1", x.turning(1, 2, 2147483646), RANGE);
    }

    private static void turned() {
        BothLists x = new BothLists();
        x.prime(11);
        x.turning(0, 0, 3);
        x.turning(1, 1, 4);
        is("2 to the 3", x.turned(0, 2, false), 8);
        is("8 back", x.turned(0, 8, true), 2);
        is("3 times 4", x.turned(1, 3, false), 1);
        is("1 back", x.turned(1, 1, true), 3);
        x.turning(1, 2, 9);
        is("1 plus 9", x.turned(1, 1, false), 10);
        is("2 plus 9", x.turned(1, 2, false), 1);
        is("1 back by 9", x.turned(1, 1, true), 2);
        is("10 back by 9", x.turned(1, 10, true), 1);
        is("x 0", x.turned(0, 0, false), RANGE);
        is("x P", x.turned(0, 11, true), RANGE);
        is("x -1", x.turned(0, -1, true), RANGE);
        is("side 2", x.turned(2, 1, false), RANGE);
        is("side -1", x.turned(-1, 1, true), RANGE);
        int[][] kinds = {{0, 2147483645}, {0, 5}, {1, 2147483646}, {1, 65537}, {2, 2147483645}, {2, 0}};
        x.prime(2147483647);
        for (int[] one : kinds) {
            is("large kind", x.turning(0, one[0], one[1]), 1);
            for (int y : new int[] {1, 2, 1234567890, 2147483645, 2147483646}) {
                is("there and back " + one[0] + " " + one[1] + " " + y, x.turned(0, x.turned(0, y, false), true), y);
                is("back and there " + one[0] + " " + one[1] + " " + y, x.turned(0, x.turned(0, y, true), false), y);
            }
        }
        x.turning(0, 1, 2147483646);
        is("times -1", x.turned(0, 5, false), 2147483642);
        x.turning(0, 2, 2147483645);
        is("plus P - 2", x.turned(0, 2147483646, false), 2147483645);
        is("plus P - 2 of 1", x.turned(0, 1, false), 2147483646);
        x.turning(0, 0, 5);
        is("10 to the 5", x.turned(0, 10, false), 100000);
    }

    private static void fixed() {
        BothLists x = new BothLists();
        is("idle", x.fixed(1), 100);
        x.prime(11);
        x.turning(0, 0, 3);
        is("squares to 1", x.fixed(0), 2);
        x.turning(0, 1, 1);
        is("times 1", x.fixed(0), 10);
        x.turning(0, 1, 10);
        is("times 10", x.fixed(0), 0);
        x.turning(0, 2, 0);
        is("plus 0", x.fixed(0), 10);
        x.turning(0, 2, 1);
        is("plus 1", x.fixed(0), 0);
        is("side 2", x.fixed(2), RANGE);
        is("side -1", x.fixed(-1), RANGE);
        x.prime(2147483647);
        is("large idle", x.fixed(0), 2147483646);
        x.turning(0, 0, 2147483645);
        is("x to the -1", x.fixed(0), 2);
    }

    private static void unlike() {
        BothLists x = new BothLists();
        is("idle ones", x.unlike(), NONE);
        x.prime(11);
        x.turning(0, 1, 10);
        x.turning(1, 0, 3);
        is("-1 to an odd power", x.unlike(), NONE);
        x.turning(0, 1, 4);
        is("4 to the 3 is 9", x.unlike(), 1);
        x.turning(0, 1, 1);
        x.turning(1, 2, 5);
        is("times 1 is idle", x.unlike(), NONE);
        x.turning(0, 1, 2);
        is("2 x 1 + 5 is not 2 x 6", x.unlike(), 1);
        x.turning(0, 2, 3);
        is("plus and plus", x.unlike(), NONE);
        x.prime(99991);
        is("highest", x.unlike(), NONE);
        x.prime(100003);
        is("P is above", x.unlike(), STATE);
        unlikeBeyondOne();
    }

    /** Every pair of turnings for small primes, against the words of the document. */
    private static void unlikeBeyondOne() {
        int beyond = 0;
        for (int p : new int[] {5, 7, 11}) {
            BothLists x = new BothLists();
            x.prime(p);
            for (int one = 0; one < 3 * p; one++) {
                for (int two = 0; two < 3 * p; two++) {
                    if (x.turning(0, one / p, one % p) == 1 && x.turning(1, two / p, two % p) == 1) {
                        int want = NONE;
                        for (int y = p - 1; y >= 1; y--) {
                            boolean same = x.turned(1, x.turned(0, y, false), false) == x.turned(0, x.turned(1, y, false), false);
                            want = same ? want : y;
                        }
                        beyond = Math.max(beyond, want);
                        is("unlike " + p + " " + one + " " + two, x.unlike(), want);
                    }
                }
            }
        }
        is("some are unlike behind 1 alone", beyond > 1 ? 1 : 0, 1);
    }

    private static void seed() {
        BothLists x = new BothLists();
        is("at first", x.seed(0, 2147483647), 1);
        is("highest", x.seed(0, 0), 2147483647);
        is("least", x.seed(0, 7), 0);
        is("of the other", x.seed(1, 8), 1);
        is("below 0", x.seed(0, -1), RANGE);
        is("side 2", x.seed(2, 1), RANGE);
        is("side -1", x.seed(-1, 1), RANGE);
        is("refused ones leave it", x.seed(0, 1), 7);
        BothLists y = ready(11, "", "", "one makes a;one pads a 2;one sends a;two makes b;two pads b 1;two sends b;");
        y.run();
        is("first draw of 1", y.saw(1, 1), 5);
        long s = (1103515245L * ((1103515245L + 12345) % 2147483648L) + 12345) % 2147483648L;
        is("second draw of 1", y.saw(1, 2), 1 + s / 256 % 10);
        is("draws of her own", y.saw(0, 1), 5);
        y.run();
        is("seeds begin anew", y.saw(1, 1), 5);
        y.seed(0, 0);
        y.run();
        is("draw of 0", y.saw(1, 1), 1 + 12345 / 256 % 10);
        y.seed(0, 2147483647);
        y.run();
        is("draw of the highest", y.saw(1, 1), 1 + (1103515245L * 2147483647L + 12345) % 2147483648L / 256 % 10);
    }

    // ---- promises 17 to 23

    private static void run() {
        BothLists x = new BothLists();
        is("no way", x.run(), STATE);
        is("nothing was run", x.out(0, 0), STATE);
        way(x, MEETING);
        is("four lines", x.run(), 4);
        is("again", x.run(), 4);
        way(x, "");
        is("no line", x.run(), STATE);
    }

    private static void goneRuns() {
        String[] calls = {"spelling", "list", "way", "prime", "turning", "seed"};
        for (String call : calls) {
            for (int good = 0; good < 2; good++) {
                BothLists x = ready(11, "a 1;", "a 1;", MEETING);
                x.run();
                boolean isGood = good == 1;
                switch (call) {
                    case "spelling" -> spelling(x, isGood ? "double;" : "double");
                    case "list" -> list(x, 0, isGood ? "b 1;" : "b");
                    case "way" -> way(x, isGood ? "one makes a;" : "one");
                    case "prime" -> x.prime(isGood ? 13 : 12);
                    case "turning" -> x.turning(0, 2, isGood ? 1 : -1);
                    default -> x.seed(0, isGood ? 1 : -1);
                }
                is(call + " and out", x.out(1, 0), isGood ? STATE : 1);
                is(call + " and saw", x.saw(1, 0), isGood ? -9 : 1);
                is(call + " and cost", x.cost(1), isGood ? STATE : 4);
                is(call + " and read", x.read(1), isGood ? STATE : 0);
                is(call + " and agree", x.agree(1, 2), isGood ? STATE : 1);
            }
        }
        BothLists x = ready(11, "a 1;", "a 1;", MEETING);
        x.run();
        comes(x, 0, 0, "b 1");
        goes(x, 1, 0, "a");
        is("days leave it", x.out(1, 0), 1);
        x.run();
        is("and it leaves days", x.out(1, 0), 1);
    }

    private static void out() {
        BothLists x = ready(101, "a 5; b 6; c 7;", "b 10; x 20; c 30; z 40;", MEETING);
        x.run();
        is("how many", x.out(1, 0), 2);
        is("places, too", x.out(1, 1), 1);
        is("place 0", x.out(1, 10), 1);
        is("place 1", x.out(1, 11), 0);
        is("place 2", x.out(1, 12), 1);
        is("place 3", x.out(1, 13), 0);
        is("no place 4", x.out(1, 14), NONE);
        is("no such what", x.out(1, 9), NONE);
        is("no such what -1", x.out(1, -1), NONE);
        is("highest what", x.out(1, Integer.MAX_VALUE), NONE);
        is("none for one", x.out(0, 0), NONE);
        is("no kind for one", x.out(0, 1), NONE);
        is("no place for one", x.out(0, 10), NONE);
        is("side 2", x.out(2, 0), RANGE);
        is("side -1", x.out(-1, 0), RANGE);
        is("side 2 of nothing run", new BothLists().out(2, 0), RANGE);
        is("nothing run", new BothLists().out(1, 0), STATE);
        way(x, MEETING + "two sums b a;");
        x.run();
        is("a sum", x.out(1, 0), 40);
        is("is a sum", x.out(1, 1), 2);
        is("a sum has no places", x.out(1, 10), NONE);
        way(x, MEETING + "two sums a b;");
        x.run();
        is("first bag is not hers", x.out(1, 0), 0);
        is("still a sum", x.out(1, 1), 2);
        way(x, MEETING + "two sums b a; two meets a b;");
        x.run();
        is("a later out", x.out(1, 0), 2);
        is("how many alone", x.out(1, 1), 0);
        is("no places", x.out(1, 10), NONE);
    }

    private static void outPlaces() {
        BothLists x = ready(101, "b 1; a 2;", "a 10; q 20;", "one makes a;one turns a;one sends a;two turns a;two sends a;"
                + "two makes c;two turns c;two sends c;one turns c;one meets a c;");
        x.turning(0, 0, 3);
        x.turning(1, 0, 7);
        x.run();
        is("came back", x.out(0, 1), 1);
        is("came back, b", x.out(0, 10), 0);
        is("came back, a", x.out(0, 11), 1);
        way(x, "one makes a;one sends a;two mixes a;two sends a;one meets a a;");
        x.run();
        is("mixed on its way", x.out(0, 1), 0);
        is("how many", x.out(0, 0), 2);
        way(x, "one makes a;one mixes a;one sums a a;");
        x.run();
        is("no places, no sum", x.out(0, 0), 0);
        way(x, "one makes a;one sends a;one mixes a;two sends a;one meets a a;");
        x.run();
        is("mixed behind the copy", x.out(0, 1), 1);
        way(x, "one makes a;one pads a 4;one sums a a;one meets a a;");
        x.run();
        is("padded ones are places of the bag", x.out(0, 0), 4);
        is("told places", x.out(0, 11), 1);
        is("but none of her list", x.out(0, 12), NONE);
        way(x, "one makes a;one pads a 4;one sums a a;");
        x.run();
        is("padded ones have no dowry", x.out(0, 0), 3);
        way(x, "two makes a;two sends a;one meets a a;");
        x.run();
        is("made by the other", x.out(0, 1), 0);
        x.prime(5);
        list(x, 0, "a 1; e 2; b 3;");
        way(x, "one makes a;one makes b;one meets a b;");
        x.run();
        is("two names of one number", x.number(0, 0), x.number(0, 1));
        is("are two places", x.out(0, 0), 3);
        // By 101 a is 19 and ax is 83: the same rest by 64, and not the same number.
        BothLists y = ready(101, "a 1; ax 1;", "ax 1; a 1;", "one makes a; one sends a; two makes b; two meets b a;");
        list(y, 0, "a 1;");
        y.run();
        is("ax", y.number(1, 0), 83);
        is("a alone is met", y.out(1, 0), 1);
        is("not ax", y.out(1, 10), 0);
        is("but a", y.out(1, 11), 1);
        list(y, 0, "ax 1; a 1;");
        y.run();
        list(y, 0, "ax 1;");
        list(y, 1, "a 1;");
        y.run();
        is("what a bag had in an earlier run is gone", y.out(1, 0), 0);
    }

    private static void saw() {
        BothLists x = ready(101, "c 1; a 2;", "b 3;", "one makes a; one sends a; one mixes a; one sends a; one counts a; one sends a;"
                + "two makes b; two sends b;");
        x.run();
        int[] two = {2, 21, 19, 2, 19, 21, -1, 2};
        is("row of two", x.saw(1, -1), two.length);
        for (int i = 0; i < two.length; i++) {
            is("two saw " + i, x.saw(1, i), two[i]);
        }
        is("no 8", x.saw(1, 8), -9);
        is("no -2", x.saw(1, -2), -9);
        is("highest", x.saw(1, Integer.MAX_VALUE), -9);
        is("row of one", x.saw(0, -1), 2);
        is("one saw", x.saw(0, 1), 20);
        is("side 2", x.saw(2, 0), -9);
        is("side -1", x.saw(-1, -1), -9);
        is("nothing run", new BothLists().saw(0, -1), -9);
        way(x, "one makes a;");
        x.run();
        is("nothing sent", x.saw(1, -1), 0);
        list(x, 0, "");
        way(x, "one makes a; one sends a;");
        x.run();
        is("an empty bag", x.saw(1, 0), 0);
        StringBuilder most = new StringBuilder("one makes a; one pads a 60;");
        for (int i = 2; i < 30; i++) {
            most.append("one sends a;");
        }
        way(x, most.toString());
        x.run();
        is("the longest row", x.saw(1, -1), 28 * 61);
        is("its last", x.saw(1, 28 * 61 - 1), x.saw(1, 60));
        is("its bytes", x.cost(1), 28 * 240);
    }

    private static void cost() {
        BothLists x = ready(101, "a 1; b 1; c 1;", "a 1; b 1;", "one makes a;one turns a;one turns a;one sends a;two turns a;"
                + "two makes b;two turns b;two counts b;two sends b;two counts a;two sends a;");
        x.run();
        is("turnings", x.cost(0), 3 * 3 + 2);
        is("bytes", x.cost(1), 12 + 4 + 4);
        x.run();
        is("turnings anew", x.cost(0), 11);
        is("bytes anew", x.cost(1), 20);
        is("what 2", x.cost(2), NONE);
        is("what -1", x.cost(-1), NONE);
        is("nothing run", new BothLists().cost(0), STATE);
        is("nothing run, bytes", new BothLists().cost(1), STATE);
    }

    private static void agree() {
        // Two sees x + k for a list of one name: any of three names, one key number each.
        BothLists x = ready(11, "b 1;", "", "one makes a; one turns a; one sends a;");
        x.turning(0, 2, 4);
        known(x, "a;b;c;");
        x.run();
        is("lists", x.agree(1, 0), 3);
        is("pairs", x.agree(1, 1), 3);
        is("even", x.agree(1, 2), 1);
        is("least", x.agree(1, 3), 1);
        // One saw nothing and has no out: all lists and all key numbers of the other's kind.
        is("all lists", x.agree(0, 0), 8);
        is("all pairs, power", x.agree(0, 1), 8 * 4);
        x.turning(1, 1, 1);
        x.run();
        is("all pairs, times", x.agree(0, 1), 8 * 10);
        x.turning(1, 2, 1);
        x.run();
        is("all pairs, plus", x.agree(0, 1), 8 * 10);
        is("least is the empty one", x.agree(0, 3), 0);
        is("side 2", x.agree(2, 0), RANGE);
        is("side -1", x.agree(-1, 0), RANGE);
        is("what 4", x.agree(0, 4), RANGE);
        is("what -1", x.agree(0, -1), RANGE);
        known(x, "a; b;");
        is("other known, same run", x.agree(1, 0), 2);
        known(x, "");
        is("nothing known", x.agree(1, 0), 0);
        is("no pairs", x.agree(1, 1), 0);
        is("even if none agrees", x.agree(1, 2), 1);
        is("no least", x.agree(1, 3), NONE);
        is("the empty list alone", x.agree(0, 0), 1);
    }

    private static void agreeEdges() {
        BothLists x = ready(61, "b 1;", "", MEETING);
        x.run();
        is("P above 60", x.agree(0, 0), STATE);
        is("RANGE ahead of STATE", x.agree(0, 4), RANGE);
        is("nothing run", new BothLists().agree(0, 0), STATE);
        x.prime(59);
        is("gone", x.agree(0, 0), STATE);
        x.run();
        known(x, "a;b;c;d;e;f;g;h;");
        is("59 and eight known", x.agree(0, 1), 256 * 28);
        // The other's count alone: all lists of two names.
        BothLists y = ready(11, "a 1;", "b 1; c 1;", "two makes b; two counts b; two sends b;");
        known(y, "a;b;c;d;");
        y.run();
        is("lists of two", y.agree(0, 0), 6);
        is("least list of two", y.agree(0, 3), 3);
        // Her out agrees, too: b met, so the lists with b and without a.
        BothLists z = ready(11, "a 1; b 2;", "b 1; c 1;", "two makes b; two mixes b; two counts b; two sends b; one makes a;"
                + "one sends a; two meets a a; two sends a; one meets a a;");
        known(z, "a;b;c;d;");
        z.run();
        is("out tells nothing more here", z.agree(0, 0), 6);
        // By 11 c is 1, and 1 to any of the four powers is 1.
        BothLists w = ready(11, "c 1;", "", "one makes a; one turns a; one sends a;");
        known(w, "c; d;");
        w.run();
        is("number of c is 1", w.number(0, 0), 1);
        is("all four powers", w.agree(1, 1), 4);
        is("for one list", w.agree(1, 0), 1);
        // By 11 c is 1 and d is 2; 2 to the 3 is 8.
        BothLists v = ready(11, "", "d 1;", "two makes d; two makes e; two turns e; two sends e; two meets d e;");
        v.turning(1, 0, 3);
        known(v, "d; c;");
        v.run();
        is("2 to the 3 by any power", v.agree(0, 0), 1);
        is("one power of four", v.agree(0, 1), 1);
        is("her own out alone counts", v.agree(1, 0), 4);
        unevenByHand();
    }

    /** By 5: a is 3, b is 4, c is 1, d is 2; x to the 3 keeps 1 and 4 and turns 2 and 3 into one another. */
    private static void unevenByHand() {
        BothLists x = ready(5, "", "c 1;", "two makes a; two turns a; two sends a; two counts a; two sends a;");
        known(x, "a; b; c; d;");
        x.run();
        is("numbers are as told", 1000 * x.number(2, 0) + 100 * x.number(2, 1) + 10 * x.number(2, 2) + x.number(2, 3), 3412);
        is("c alone", x.agree(0, 3), 4);
        is("by both powers", x.agree(0, 1), 2);
        list(x, 1, "a 1;");
        x.turning(1, 0, 3);
        x.run();
        is("2 seen: d by 1 or a by 3", x.agree(0, 0), 2);
        is("one power each", x.agree(0, 1), 2);
        is("even", x.agree(0, 2), 1);
        // Draws are 3, then 1: 1 and 3 are seen of nobody and of c by both powers, of a and c by 1, of c and d by 3.
        way(x, "two makes b; two turns b; two pads b 2; two mixes b; two sends b;");
        list(x, 1, "c 1;");
        x.run();
        is("1 and 3 are seen", 10 * x.saw(0, 1) + x.saw(0, 2), 13);
        is("four lists", x.agree(0, 0), 4);
        is("six pairs", x.agree(0, 1), 6);
        is("uneven", x.agree(0, 2), 0);
        is("the empty one is the least", x.agree(0, 3), 0);
        is("a perhaps", x.surely(0, 0), 2);
        is("b is not", x.surely(0, 1), 0);
        is("c perhaps", x.surely(0, 2), 2);
        // A sum is an out, too, and what comes out for the other one is not.
        way(x, "one makes a; one sends a; two turns a; two makes b; two meets a b; two sends a; one makes c; one sums a c;");
        list(x, 0, "c 1;");
        x.run();
        is("1 seen: every list, every power", x.agree(0, 1), 32);
    }

    private static void surely() {
        BothLists x = ready(11, "a 1;", "b 1; c 1;", "two makes b; two sends b; one makes a; one meets a b;");
        known(x, "a;b;c;d;");
        x.run();
        is("a is not", x.surely(0, 0), 0);
        is("b is", x.surely(0, 1), 1);
        is("c is", x.surely(0, 2), 1);
        is("two saw nothing", x.surely(1, 0), 2);
        is("no known 4", x.surely(0, 4), RANGE);
        is("no known -1", x.surely(0, -1), RANGE);
        is("side 2", x.surely(2, 0), RANGE);
        is("side -1", x.surely(-1, 0), RANGE);
        known(x, "b; d;");
        is("no list agrees", x.surely(0, 0), NONE);
        x.seed(0, 1);
        is("nothing run", x.surely(0, 0), STATE);
        is("RANGE ahead of STATE", x.surely(0, 2), RANGE);
        x.prime(61);
        x.run();
        is("P above 60", x.surely(0, 0), STATE);
    }

    private static void read() {
        // By 101: a is 19, b 20, c 21, d 22, e 23.
        BothLists x = ready(101, "a 1; e 1;", "z 1;", "one makes a; one sends a; one counts a; one sends a; two makes b; two sends b;");
        known(x, "a;b;c;d;e;z;");
        x.run();
        is("not turned", x.read(1), 1 + 16);
        is("what one got", x.read(0), 32);
        x.turning(1, 2, 1);
        x.run();
        is("plus 1, none to two times", x.read(1), 1 + 4 + 8 + 16);
        x.turning(1, 2, 2);
        x.run();
        is("plus 2, none to two times", x.read(1), 1 + 4 + 16);
        x.turning(1, 2, 4);
        x.run();
        is("plus 4", x.read(1), 1 + 16);
        is("side 2", x.read(2), RANGE);
        is("side -1", x.read(-1), RANGE);
        x.seed(0, 1);
        is("nothing run", x.read(0), STATE);
        is("RANGE ahead of STATE", x.read(2), RANGE);
        readSizes();
    }

    /** The sizes of bags and what was counted are no numbers of a bag. */
    private static void readSizes() {
        BothLists x = ready(101, "a 1; e 1;", "", "one makes a; one sends a; one counts a; one sends a;");
        x.prime(5);
        list(x, 0, "a 1; b 1;");
        known(x, "a; b; c; d;");
        x.run();
        is("row", x.saw(1, 0), 2);
        is("c is 1, d is 2, neither was sent", x.read(1), 1 + 2);
        way(x, "one makes a; one counts a; one sends a;");
        x.run();
        is("a count is none", x.read(1), 0);
        way(x, "one makes a; one makes b; one counts b; one sends b; one sends a; one sends b;");
        x.run();
        is("a bag behind a count", x.read(1), 1 + 2);
        // By 11 the first draw is 5, and so is g.
        BothLists y = ready(11, "", "", "one makes a; one sends a; one pads a 1; one sends a;");
        known(y, "g;");
        y.run();
        is("a bag behind an empty one", y.read(1), 1);
    }

    // ---- promises 24 to 27

    private static void thrown() {
        BothLists x = new BothLists();
        x.prime(11);
        list(x, 0, "a 1; b 1; c 1;");
        is("empty", x.thrown(1, 62, 6), 0);
        // 9, 10 and 1 times 3 modulo 8: 3, 6, 3.
        is("one throw", x.thrown(0, 8, 1), (1 << 3) + (1 << 6));
        // and times 5 and 1: 46, 51, 6 modulo 8: 6, 3, 6.
        is("two throws", x.thrown(0, 8, 2), (1 << 3) + (1 << 6));
        is("a row of one", x.thrown(0, 1, 6), 1);
        is("a row of 62", x.thrown(0, 62, 1), (1L << 27) + (1L << 30) + (1L << 3));
        is("m 0", x.thrown(0, 0, 1), RANGE);
        is("m 63", x.thrown(0, 63, 1), RANGE);
        is("h 0", x.thrown(0, 8, 0), RANGE);
        is("h 7", x.thrown(0, 8, 7), RANGE);
        is("side 2", x.thrown(2, 8, 1), RANGE);
        is("side -1", x.thrown(-1, 8, 1), RANGE);
        x.prime(2147483647);
        list(x, 0, "zzzzzzzzzz 1;");
        long n = x.number(0, 0);
        long row = 0;
        for (int j = 0; j < 6; j++) {
            row |= 1L << (n * (2 * j + 3) + j) % 61;
        }
        is("a large number", x.thrown(0, 61, 6), row);
    }

    private static void strangers() {
        BothLists x = new BothLists();
        x.prime(11);
        list(x, 0, "a 1; b 1; c 1;");
        is("none in an empty row", x.strangers(1, 1, 1), 0);
        is("all the others", x.strangers(0, 1, 1), 7);
        // 3 x modulo 8 is 3 or 6: x is 1, 9, 2, 10: of these 2 is a stranger.
        is("one", x.strangers(0, 8, 1), 1);
        is("m 0", x.strangers(0, 0, 1), RANGE);
        is("m 63", x.strangers(0, 63, 1), RANGE);
        is("h 0", x.strangers(0, 1, 0), RANGE);
        is("h 7", x.strangers(0, 1, 7), RANGE);
        is("side 2", x.strangers(2, 1, 1), RANGE);
        x.prime(5);
        list(x, 0, "a 1; e 1; b 1;");
        is("two names of one number", x.strangers(0, 1, 1), 2);
        x.prime(2999);
        is("2999", x.strangers(0, 1, 1), 2995);
        x.prime(3001);
        is("P above 3000", x.strangers(0, 1, 1), STATE);
        is("RANGE ahead of STATE", x.strangers(0, 63, 1), RANGE);
    }

    private static void cheapest() {
        BothLists x = new BothLists();
        x.prime(11);
        is("an empty list", x.cheapest(0, 0), 11);
        list(x, 0, "a 1; b 1; c 1;");
        is("seven", x.cheapest(0, 7), 11);
        // By 2: x odd throws 1, x even 0: 9, 10 and 1 throw both. By 3: 0 for one throw, 0 and 2, 1 .. for more.
        is("six", x.cheapest(0, 6), x.strangers(0, 3, 1) <= 6 ? 31 : 32);
        is("none", x.cheapest(0, 0), 101);
        is("most -1", x.cheapest(0, -1), RANGE);
        is("side 2", x.cheapest(2, 0), RANGE);
        is("side -1", x.cheapest(-1, 0), RANGE);
        is("highest most", x.cheapest(0, Integer.MAX_VALUE), 11);
        cheapestOf(31, "v 1; u 1; h 1; m 1; z 1;", 0, 306);
        cheapestOf(101, "h 1; u 1; v 1;", 1, 621);
        x.prime(3001);
        is("P above 3000", x.cheapest(0, 0), STATE);
        is("RANGE ahead of STATE", x.cheapest(0, -1), RANGE);
        x.prime(2999);
        is("none does", x.cheapest(0, 0), NONE);
    }

    /** None ahead of it will do, and it does. */
    private static void cheapestOf(int p, String text, int most, int want) {
        BothLists x = new BothLists();
        x.prime(p);
        list(x, 1, text);
        for (int m = 1; m <= 62; m++) {
            for (int h = 1; h <= 6 && 10 * m + h <= want; h++) {
                is("strangers " + m + " " + h, x.strangers(1, m, h) <= most ? 10 * m + h : want, want);
            }
        }
        is("strangers of " + want, x.strangers(1, want / 10, want % 10) <= most ? 1 : 0, 1);
        is("cheapest is " + want, x.cheapest(1, most), want);
    }

    private static void near() {
        BothLists x = new BothLists();
        spelling(x, "same c k; double;");
        list(x, 0, "cat 1; bob 1; kit 1;");
        list(x, 1, "kat 1; bob 1; kiit 1; dog 1;");
        is("kat and kiit", x.near(), 2);
        is("the other way round", list(x, 0, "dog 1; boob 1;"), 2);
        is("boob", x.near(), 1);
        comes(x, 0, 0, "catt 1");
        is("as they were told", x.near(), 1);
        list(x, 1, "");
        is("nobody", x.near(), 0);
    }

    // ---- promises 28 to 31

    private static void comes() {
        BothLists x = new BothLists();
        spelling(x, "same c k;");
        list(x, 0, "cat 1;");
        is("side 2", comes(x, 2, 0, "bob 1"), RANGE);
        is("side -1", comes(x, -1, 0, "bob 1"), RANGE);
        is("day -1", comes(x, 0, -1, "bob 1"), RANGE);
        is("day -1 of a new object", comes(new BothLists(), 0, -1, "bob 1"), RANGE);
        is("day 401", comes(x, 0, 401, "bob 1"), RANGE);
        is("RANGE ahead of NONE", comes(x, 0, 401, ""), RANGE);
        is("no text", comes(x, 0, 0, ""), NONE);
        is("no dowry", comes(x, 0, 0, "bob"), NONE);
        is("with ;", comes(x, 0, 0, "bob 1;"), NONE);
        is("dowry too high", comes(x, 0, 0, "bob 10000"), NONE);
        is("dowry too long", comes(x, 0, 0, "bob 000001"), NONE);
        is("number first", comes(x, 0, 0, "1 bob"), NONE);
        is("a name of the list", comes(x, 0, 0, "kat 1"), NONE);
        is("none yet", x.count(6), 0);
        is("first change", comes(x, 0, 5, "\nbob 9999 "), 1);
        is("same day", comes(x, 1, 5, "kat 0"), 2);
        is("a day that falls", comes(x, 0, 4, "tim 1"), RANGE);
        is("a name by then", comes(x, 0, 6, "bob 1"), NONE);
        is("last day", comes(x, 0, 400, "tim 1"), 3);
        is("days don't fall", comes(x, 0, 399, "tom 1"), RANGE);
        list(x, 1, "");
        is("changes are none", x.count(6), 0);
        is("of the other, too", x.size(0, 400, 0), 1);
        is("days begin anew", comes(x, 0, 0, "tom 1"), 1);
        comesFull();
    }

    private static void comesFull() {
        BothLists x = new BothLists();
        list(x, 0, words(40, " 1;"));
        is("the list is full", comes(x, 0, 1, "zz 1"), FULL);
        is("NONE ahead of FULL", comes(x, 0, 1, "aa 1"), NONE);
        is("one goes", goes(x, 0, 1, "aa"), 1);
        is("then one comes", comes(x, 0, 1, "zz 1"), 2);
        is("full again", comes(x, 0, 2, "aa 1"), FULL);
        is("forty as of then", x.size(0, 1, 0), 40);
        BothLists y = new BothLists();
        for (int i = 0; i < 40; i++) {
            is("change " + i, comes(y, i % 2, i, words(40, "").substring(2 * i, 2 * i + 2) + " 1"), i + 1);
        }
        is("forty changes were", comes(y, 0, 40, "zz 1"), FULL);
        is("forty changes were, goes", goes(y, 0, 40, "aa"), FULL);
        is("NONE ahead of FULL, goes", goes(y, 0, 40, "zz"), NONE);
        is("NONE ahead of FULL, comes", comes(y, 0, 40, "zz"), NONE);
        is("RANGE ahead of all", comes(y, 0, 38, "zz 1"), RANGE);
        is("still forty", y.count(6), 40);
    }

    private static void goes() {
        BothLists x = new BothLists();
        spelling(x, "same c k;");
        list(x, 0, "cat 4; bob 5;");
        is("side 2", goes(x, 2, 0, "bob"), RANGE);
        is("day -1", goes(x, 0, -1, "bob"), RANGE);
        is("day 401", goes(x, 0, 401, "bob"), RANGE);
        is("no word", goes(x, 0, 0, "bob 1"), NONE);
        is("nothing", goes(x, 0, 0, ""), NONE);
        is("no name of it", goes(x, 0, 0, "tim"), NONE);
        is("no name of the other", goes(x, 1, 0, "bob"), NONE);
        is("one name", goes(x, 0, 7, "kat"), 1);
        is("gone already", goes(x, 0, 7, "cat"), NONE);
        is("a day that falls", goes(x, 0, 6, "bob"), RANGE);
        is("comes back", comes(x, 0, 7, "kat 9"), 2);
        is("goes again", goes(x, 0, 9, "cat"), 3);
        is("day 6", x.size(0, 6, 1), 9);
        is("day 7", x.size(0, 7, 1), 14);
        is("day 8", x.size(0, 8, 1), 14);
        is("day 9", x.size(0, 9, 1), 5);
        is("as they were told", x.count(0), 2);
        goes(x, 0, 9, "bob");
        is("nobody", x.size(0, 9, 0), 0);
        list(x, 1, "");
        is("all are there again", x.size(0, 9, 1), 9);
    }

    private static void both() {
        BothLists x = new BothLists();
        spelling(x, "same c k;");
        list(x, 0, "cat 1; bob 1;");
        list(x, 1, "kat 1; tim 1;");
        is("cat and kat", x.both(0), 1);
        comes(x, 0, 10, "tim 1");
        goes(x, 1, 20, "cat");
        goes(x, 0, 30, "tim");
        int[][] days = {{0, 1}, {9, 1}, {10, 2}, {19, 2}, {20, 1}, {29, 1}, {30, 0}, {400, 0}};
        for (int[] one : days) {
            is("both " + one[0], x.both(one[0]), one[1]);
        }
        is("day -1", x.both(-1), RANGE);
        is("day 401", x.both(401), RANGE);
    }

    private static void size() {
        BothLists x = new BothLists();
        list(x, 0, "a 10; b 20;");
        comes(x, 0, 400, "c 300");
        goes(x, 0, 400, "a");
        is("names", x.size(0, 399, 0), 2);
        is("dowries", x.size(0, 399, 1), 30);
        is("names then", x.size(0, 400, 0), 2);
        is("dowries then", x.size(0, 400, 1), 320);
        is("of the other", x.size(1, 400, 1), 0);
        is("what 2", x.size(0, 0, 2), RANGE);
        is("what -1", x.size(0, 0, -1), RANGE);
        is("side 2", x.size(2, 0, 0), RANGE);
        is("side -1", x.size(-1, 0, 0), RANGE);
        is("day -1", x.size(0, -1, 0), RANGE);
        is("day 401", x.size(0, 401, 0), RANGE);
        list(x, 0, words(40, " 9999;"));
        is("the highest sum", x.size(0, 0, 1), 40 * 9999);
    }

    // ---- promises 32 to 34

    private static void caught() {
        BothLists x = new BothLists();
        is("10 2 3", x.caught(10, 2, 3, 0), 8);
        is("10 2 3 lower", x.caught(10, 2, 3, 1), 15);
        is("nothing opened", x.caught(10, 2, 0, 0), 0);
        is("nothing opened, lower", x.caught(10, 2, 0, 1), 1);
        is("nothing false", x.caught(40, 0, 40, 0), 0);
        is("nothing false, lower", x.caught(40, 0, 40, 1), 1);
        is("all opened", x.caught(40, 1, 40, 0), 1);
        is("all opened, lower", x.caught(40, 1, 40, 1), 1);
        is("one of 40, half", x.caught(40, 1, 20, 1), 2);
        is("20 of 40, half", x.caught(40, 20, 20, 0), 137846528819L);
        is("20 of 40, half, lower", x.caught(40, 20, 20, 1), 137846528820L);
        is("one line", x.caught(1, 1, 1, 0), 1);
        is("n 0", x.caught(0, 0, 0, 0), RANGE);
        is("n 41", x.caught(41, 1, 1, 0), RANGE);
        is("f -1", x.caught(10, -1, 1, 0), RANGE);
        is("f 11", x.caught(10, 11, 1, 0), RANGE);
        is("c -1", x.caught(10, 1, -1, 0), RANGE);
        is("c 11", x.caught(10, 1, 11, 0), RANGE);
        is("what 2", x.caught(10, 1, 1, 2), RANGE);
        is("what -1", x.caught(10, 1, 1, -1), RANGE);
    }

    private static void opened() {
        BothLists x = new BothLists();
        is("a half", x.opened(10, 2, 1, 2), 3);
        is("8 of 15 just", x.opened(10, 2, 8, 15), 3);
        is("a little more", x.opened(10, 2, 5334, 10000), 4);
        is("surely", x.opened(10, 2, 1, 1), 9);
        is("surely of 10000", x.opened(40, 1, 10000, 10000), 40);
        is("nothing asked", x.opened(10, 2, 0, 1), 0);
        is("nothing false", x.opened(10, 0, 1, 10000), NONE);
        is("nothing false or asked", x.opened(10, 0, 0, 10000), 0);
        is("all false", x.opened(10, 10, 1, 1), 1);
        is("n 0", x.opened(0, 0, 1, 2), RANGE);
        is("n 41", x.opened(41, 0, 1, 2), RANGE);
        is("f 11", x.opened(10, 11, 1, 2), RANGE);
        is("f -1", x.opened(10, -1, 1, 2), RANGE);
        is("a -1", x.opened(10, 1, -1, 2), RANGE);
        is("a above b", x.opened(10, 1, 3, 2), RANGE);
        is("b 0", x.opened(10, 1, 0, 0), RANGE);
        is("b 10001", x.opened(10, 1, 1, 10001), RANGE);
    }

    private static void count() {
        BothLists x = new BothLists();
        x.prime(7);
        spelling(x, "double; first 9;");
        list(x, 0, "a 1; b 1; c 1;");
        list(x, 1, "a 1;");
        known(x, "a; b; c; d; e;");
        way(x, MEETING);
        comes(x, 0, 0, "z 1");
        goes(x, 1, 0, "a");
        Put.text(x, "12345678");
        int[] want = {3, 1, 5, 4, 2, 7, 2, 8};
        for (int what = 0; what < want.length; what++) {
            is("count " + what, x.count(what), want[what]);
        }
        is("count 8", x.count(8), NONE);
        is("count -1", x.count(-1), NONE);
    }
}
