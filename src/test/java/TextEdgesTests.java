import java.nio.charset.StandardCharsets;

/** Terms I and promises 1 to 9: every sentence that names an edge, one method each, with its words. */
public final class TextEdgesTests extends Common {
    private static final int SYNTAX = 1;
    private static final int OUT_OF_BOUNDS = 2;
    private static final int TWICE = 3;
    private static final int ROOM = 4;
    private static final int UNKNOWN = 5;
    private static final int COUNTED = 6;

    private static final String ALL_LETTERS = " a b c d e f g h i j k l m n o p q r s t u v w x y z";

    public static void main(String[] args) {
        begin("TextEdgesTests");
        newObject();
        objectsApart();
        tapeFull();
        tapeRefusesWhole();
        tapeToItsLastByte();
        tapeBytes();
        end();
        endHidesWhatIsBehind();
        tapeEmptied();
        tapeLeft();
        blanks();
        wordLengths();
        numberLengths();
        signsThatAreNone();
        spellingClauses();
        spellingBounds();
        spellingTwice();
        keyOfNoLetter();
        keyDouble();
        keyFirst();
        oneName();
        listDowries();
        listRoom();
        listTwice();
        knownRoom();
        knownTwice();
        wayBagLetters();
        wayOwnBags();
        wayPads();
        wayRoom();
        wayMakes();
        waySends();
        wayUnknown();
        wayCounted();
        wayGrammar();
        faultAtEnd();
        faultFirst();
        faultLeast();
        emptyTexts();
        spellingStays();
        spellingEmpties();
        listStays();
        listNoSide();
        listEndsDays();
        listShorter();
        knownStays();
        knownShorter();
        wayStays();
        fault();
        key();
        finish();
    }

    // ---- promises 1 to 3, and the tape

    private static void newObject() {
        says("1: No rule of spelling, empty LISTS, nothing KNOWN, no WAY");
        BothLists x = new BothLists();
        is("clauses", x.count(4), 0);
        is("key is the word", key(x, "aabbc", -1), 5);
        for (int side = 0; side < 2; side++) {
            is("words of " + side, x.count(side), 0);
            is("number of " + side, x.number(side, 0), RANGE);
            is("names of " + side, x.size(side, 0, 0), 0);
            is("dowries of " + side, x.size(side, 400, 1), 0);
            is("row of " + side, x.thrown(side, 62, 6), 0);
            is("strangers of " + side, x.strangers(side, 1, 1), 0);
        }
        is("known", x.count(2), 0);
        is("number of a known", x.number(2, 0), RANGE);
        is("lines", x.count(3), 0);
        is("run", x.run(), STATE);
        is("P", x.count(5), 101);
        is("changes", x.count(6), 0);
        is("bytes", x.count(7), 0);
        is("both", x.both(400), 0);
        is("near", x.near(), 0);
        is("unlike", x.unlike(), NONE);
    }

    private static void objectsApart() {
        says("1: A new object");
        BothLists x = ready(11, "a 1;", "b 1;", MEETING);
        spelling(x, "drop a;");
        x.turning(0, 2, 3);
        x.seed(1, 9);
        Put.text(x, "abc");
        BothLists y = new BothLists();
        for (int what = 0; what <= 7; what++) {
            is("another one's count " + what, y.count(what), what == 5 ? 101 : 0);
        }
        is("another one's key", key(y, "a", -1), 1);
        is("another one's turning", y.turned(0, 1, false), 1);
        is("another one's seed", y.seed(1, 1), 1);
        is("the first one has its own", x.count(7), 3);
    }

    private static void feedBlanks(BothLists x, int calls) {
        for (int i = 0; i < calls; i++) {
            x.feed(0x20202020, 0x20202020, 0x20202020, 0x20202020, 0x20202020);
        }
    }

    private static void tapeFull() {
        says("2: FULL when there would be more than 1200");
        BothLists x = new BothLists();
        feedBlanks(x, 58);
        is("the 59th", x.feed(0, 0, 0, 0, 0), 1180);
        is("the 60th", x.feed(0, 0, 0, 0, 0), 1200);
        is("the 61st", x.feed(0, 0, 0, 0, 0), FULL);
        is("again", x.feed(0, 0, 0, 0, 0), FULL);
        is("it has", x.count(7), 1200);
        for (int n = 1199; n > 1180; n--) {
            x.end(n);
            is("behind " + n, x.feed(0, 0, 0, 0, 0), FULL);
        }
        is("cut to 1180", x.end(1180), 1180);
        is("behind 1180", x.feed(0, 0, 0, 0, 0), 1200);
        is("cut to none", x.end(0), 0);
        is("behind none", x.feed(0, 0, 0, 0, 0), 20);
    }

    private static void tapeRefusesWhole() {
        says("2: FULL when there would be more than 1200");
        BothLists x = new BothLists();
        x.feed(0x61626320, 0x20202020, 0x20202020, 0x20202020, 0x20202020);
        feedBlanks(x, 59);
        x.end(1190);
        is("ten would fit, twenty don't", x.feed(0x7A7A7A7A, 0x7A7A7A7A, 0x7A7A7A7A, 0x7A7A7A7A, 0x7A7A7A7A), FULL);
        is("none of them came", x.count(7), 1190);
        is("the text is as it was", x.key(-1), 3);
    }

    private static void tapeToItsLastByte() {
        says("I: THE TAPE has at most 1200 bytes");
        BothLists x = new BothLists();
        is("blanks alone", spelling(x, " ".repeat(1200)), 0);
        is("a word at its end", key(x, " ".repeat(1190) + "abcdefghij", 9), 'j');
        is("a list", list(x, 0, "ab 1;" + "\n".repeat(1190) + "c 12;"), 2);
        is("the last word's dowry", x.size(0, 0, 1), 13);
        is("a way", way(x, " ".repeat(1188) + "one makes a;"), 1);
        badList(" ".repeat(1199) + "a", SYNTAX, 1200);
        badList("a" + " ".repeat(1198) + "1", SYNTAX, 1200);
        badList("a 1" + " ".repeat(1197), SYNTAX, 1200);
        badKnown(" ".repeat(1189) + "abcdefghijk", SYNTAX, 1189);
        badKnown(" ".repeat(1199) + "?", SYNTAX, 1199);
        badSpelling("first" + " ".repeat(1192) + "11;", OUT_OF_BOUNDS, 1197);
    }

    private static void tapeBytes() {
        says("2: Twenty bytes come behind THE TAPE, the highest of each int first");
        int[] shifts = {24, 16, 8, 0};
        for (int i = 0; i < 20; i++) {
            int[] five = {0x20202020, 0x20202020, 0x20202020, 0x20202020, 0x20202020};
            five[i / 4] = 0x20202020 & ~(255 << shifts[i % 4]) | '?' << shifts[i % 4];
            BothLists x = new BothLists();
            is("twenty", x.feed(five[0], five[1], five[2], five[3], five[4]), 20);
            is("a fault", x.list(0), NONE);
            is("place of byte " + i, x.fault(1), i);
        }
        BothLists x = new BothLists();
        x.feed(0xFFFFFFFF, 0x20202020, 0x20202020, 0x20202020, 0x20202020);
        is("a byte above 127 is none of a text", x.list(0), NONE);
        is("it is the first", x.fault(1), 0);
        x.feed(0x20202020, 0x20202020, 0x20202020, 0x20202020, 0x20206162);
        x.feed(0x63642020, 0x20202020, 0x20202020, 0x20202020, 0x20202020);
        is("a word over two calls", x.key(-1), 4);
    }

    private static void end() {
        says("3: NONE when it has not so many, or n is below 0");
        BothLists x = new BothLists();
        is("none of none", x.end(0), 0);
        is("1 of none", x.end(1), NONE);
        is("-1 of none", x.end(-1), NONE);
        feedBlanks(x, 1);
        for (int n : new int[] {21, 1200, MOST, -1, -20, LEAST}) {
            is("end " + n, x.end(n), NONE);
            is("it stays " + n, x.count(7), 20);
        }
        is("all it has", x.end(20), 20);
        is("one fewer", x.end(19), 19);
        is("20 then", x.end(20), NONE);
        is("none", x.end(0), 0);
        is("1 then", x.end(1), NONE);
    }

    /** Feeds a text with more bytes behind it, which end() then cuts off. */
    private static BothLists cut(String text, String behind) {
        BothLists x = new BothLists();
        Put.text(x, text + behind);
        is("cut to " + text, x.end(text.length()), text.length());
        return x;
    }

    private static void endHidesWhatIsBehind() {
        says("3: THE TAPE has its first n bytes alone");
        is("letters behind", cut("abc", "def").key(-1), 3);
        is("blanks behind", cut("abc", "   ").key(-1), 3);
        BothLists x = cut("a 12", "34;");
        is("a number is cut", x.comes(0, 0), 1);
        is("its value", x.size(0, 0, 1), 12);
        x = cut("a 1;", "b 2;");
        is("words behind", x.list(0), 1);
        x = cut("a 1", "    ");
        is("no ;", x.list(0), NONE);
        is("place at the end, blanks behind", x.fault(1), 3);
        x = cut("a", "1;");
        is("no number", x.list(0), NONE);
        is("place at the end, a number behind", x.fault(1), 1);
        x = cut("a 1", ";");
        is("; behind", x.list(0), NONE);
        is("place at the end, ; behind", x.fault(1), 3);
        x = cut("", "a 1;");
        is("nothing is left", x.list(0), 0);
    }

    private static void tapeEmptied() {
        says("I: each call that reads it empties it, whatever it tells");
        String[] texts = {"", "?", "a", "a 1", "a 1;", "a;", "double;", "one makes a;"};
        for (String text : texts) {
            for (int call = 0; call < 12; call++) {
                BothLists x = new BothLists();
                Put.text(x, text);
                switch (call) {
                    case 0 -> x.spelling();
                    case 1 -> x.list(0);
                    case 2 -> x.list(2);
                    case 3 -> x.known();
                    case 4 -> x.way();
                    case 5 -> x.key(-1);
                    case 6 -> x.key(5);
                    case 7 -> x.comes(0, 0);
                    case 8 -> x.comes(-1, 0);
                    case 9 -> x.comes(0, 401);
                    case 10 -> x.goes(1, 0);
                    default -> x.goes(0, -1);
                }
                is("call " + call + " of " + text, x.count(7), 0);
                is("nothing is left for the next", x.key(-1), NONE);
            }
        }
        BothLists x = new BothLists();
        list(x, 0, words(40, " 1;"));
        is("comes is FULL", comes(x, 0, 0, "zz 1"), FULL);
        is("comes FULL empties", x.count(7), 0);
        is("comes is NONE", comes(x, 0, 0, "aa 1"), NONE);
        is("comes NONE empties", x.count(7), 0);
        for (int i = 0; i < 20; i++) {
            goes(x, 0, 3, "aa");
            comes(x, 0, 3, "aa 1");
        }
        is("goes is FULL", goes(x, 0, 3, "aa"), FULL);
        is("goes FULL empties", x.count(7), 0);
        is("a day falls", goes(x, 0, 2, "aa"), RANGE);
        is("goes RANGE empties", x.count(7), 0);
    }

    private static void tapeLeft() {
        says("I: each call that reads it empties it");
        BothLists x = ready(11, "a 1;", "b 1;", MEETING);
        known(x, "a;");
        Put.text(x, "abc");
        x.prime(13);
        x.turning(0, 2, 1);
        x.seed(0, 5);
        x.run();
        x.out(1, 0);
        x.saw(1, 0);
        x.cost(0);
        x.agree(0, 0);
        x.surely(0, 0);
        x.read(0);
        x.thrown(0, 8, 1);
        x.strangers(0, 8, 1);
        x.cheapest(0, 0);
        x.near();
        x.both(0);
        x.size(0, 0, 0);
        x.caught(9, 1, 1, 0);
        x.opened(9, 1, 1, 2);
        x.fault(0);
        x.number(0, 0);
        x.turned(0, 1, true);
        x.fixed(0);
        x.unlike();
        x.count(0);
        x.end(4);
        x.feed(0, 0, 0, 0, 0);
        x.end(3);
        is("others leave it", x.count(7), 3);
        is("as it was", x.key(2), 'c');
    }

    // ---- tokens

    private static void blanks() {
        says("I: TOKENS with any blanks (32, 10) between");
        BothLists x = new BothLists();
        is("none where none is needed", list(x, 0, "a1;b2;"), 2);
        is("many", list(x, 0, " \n \n a \n\n 1 \n ; b \n2; \n"), 2);
        is("10 alone", list(x, 0, "\na\n1\n;\n"), 1);
        is("way", way(x, "\none\nmakes\na\n;"), 1);
        for (char sign : new char[] {9, 11, 12, 13, 0, 31, 33, 160, 133}) {
            badList(sign + "a 1;", SYNTAX, 0);
            badList("a" + sign + "1;", SYNTAX, 1);
            badList("a 1;" + sign, SYNTAX, 4);
            is("key with " + (int) sign, key(x, "a" + sign, -1), NONE);
        }
        badWay("onemakes a;", SYNTAX, 0);
        badWay("one makesa;", SYNTAX, 4);
        badSpelling("samea b;", SYNTAX, 0);
        badSpelling("same ab;", SYNTAX, 5);
        badSpelling("fir st 3;", SYNTAX, 0);
    }

    private static void wordLengths() {
        says("I: WORDS (small letters, as many as there are, 10 at most)");
        BothLists x = new BothLists();
        is("1", list(x, 0, "a 1;"), 1);
        is("10", list(x, 0, "abcdefghij 1;"), 1);
        is("10 known", known(x, "zzzzzzzzzz;"), 1);
        is("10 come", comes(x, 0, 0, "zzzzzzzzzz 1"), 1);
        is("10 go", goes(x, 0, 0, "zzzzzzzzzz"), 2);
        is("10 are ten", key(x, "zzzzzzzzzz", -1), 10);
        is("11 don't come", comes(x, 0, 0, "zzzzzzzzzzz 1"), NONE);
        is("11 don't go", goes(x, 0, 0, "abcdefghijj"), NONE);
        is("11 have no key", key(x, "abcdefghijk", -1), NONE);
        badList("abcdefghijk 1;", SYNTAX, 0);
        badList("a 1; abcdefghijk 1;", SYNTAX, 5);
        badKnown(" abcdefghijklmnopqrstuvwxyz;", SYNTAX, 1);
        badList("a".repeat(1000) + " 1;", SYNTAX, 0);
        badWay("one makes aaaaaaaaaaaaa;", SYNTAX, 10);
        badSpelling("drop aaaaaaaaaaaaa;", SYNTAX, 5);
    }

    private static void numberLengths() {
        says("I: N (digits, as many as there are, 5 at most)");
        BothLists x = new BothLists();
        is("5 digits", list(x, 0, "a 09999;"), 1);
        is("their value", x.size(0, 0, 1), 9999);
        is("5 zeros", list(x, 0, "a 00000;"), 1);
        is("5 of first", spelling(x, "first 00010;"), 1);
        is("5 of pads", way(x, "one makes a; one pads a 00060;"), 2);
        is("5 come", comes(x, 0, 0, "a 00007"), 1);
        is("6 don't come", comes(x, 0, 0, "b 000007"), NONE);
        badList("a 000001;", SYNTAX, 2);
        badList("a 123456;", SYNTAX, 2);
        badList("a " + "0".repeat(100) + ";", SYNTAX, 2);
        badList("a 4294967297;", SYNTAX, 2);
        badSpelling("first 000003;", SYNTAX, 6);
        badWay("one makes a; one pads a 000003;", SYNTAX, 24);
        badList("a 1 2;", SYNTAX, 4);
        badList("a b;", SYNTAX, 2);
    }

    private static void signsThatAreNone() {
        says("I: a TOKEN (or byte that is none, a run that is too long) with which no text goes on");
        for (char sign : new char[] {'`', '{', 'A', 'Z', '/', ':', '<', '-', '.', ',', 127, 128, 255}) {
            badList("a 1; " + sign + " 1;", SYNTAX, 5);
            badList("a " + sign + ";", SYNTAX, 2);
            badKnown("a" + sign + ";", SYNTAX, 1);
            badSpelling("double " + sign, SYNTAX, 7);
            badWay("one" + sign, SYNTAX, 3);
        }
        BothLists x = new BothLists();
        is("a and z", known(x, "a;z;az;"), 3);
        is("0 and 9", list(x, 0, "a 0; b 9; c 90; d 09;"), 4);
        is("their sum", x.size(0, 0, 1), 108);
    }

    // ---- spelling

    private static void spellingClauses() {
        says("I: clause = \"same\" L L {L} | \"drop\" L {L} | \"double\" | \"first\" N. L: a WORD of one letter");
        BothLists x = new BothLists();
        is("same two", spelling(x, "same a b;"), 1);
        is("same all", spelling(x, "same" + ALL_LETTERS + ";"), 1);
        is("drop one", spelling(x, "drop a;"), 1);
        is("drop all", spelling(x, "drop" + ALL_LETTERS + ";"), 1);
        is("all kinds", spelling(x, "first 1;double;drop a;same b c;drop d;same e f;"), 6);
        badSpelling("same;", SYNTAX, 4);
        badSpelling("same a;", SYNTAX, 6);
        badSpelling("same a bc;", SYNTAX, 7);
        badSpelling("same a b cd;", SYNTAX, 9);
        badSpelling("same a b 1;", SYNTAX, 9);
        badSpelling("drop;", SYNTAX, 4);
        badSpelling("drop ab;", SYNTAX, 5);
        badSpelling("drop a bc;", SYNTAX, 7);
        badSpelling("drop 1;", SYNTAX, 5);
        badSpelling("double a;", SYNTAX, 7);
        badSpelling("double 1;", SYNTAX, 7);
        badSpelling("first;", SYNTAX, 5);
        badSpelling("first a;", SYNTAX, 6);
        badSpelling("first 1 a;", SYNTAX, 8);
        badSpelling("drop a double;", SYNTAX, 7);
        badSpelling(";", SYNTAX, 0);
        badSpelling("double;;", SYNTAX, 7);
        badSpelling("1;", SYNTAX, 0);
        for (String word : new String[] {"lame", "sane", "samt", "sam", "sames", "crop", "dropp", "dro", "couble", "doubl",
            "doubles", "worst", "firsts", "firs", "one", "a"}) {
            badSpelling(word + " a b;", SYNTAX, 0);
        }
    }

    private static void spellingBounds() {
        says("I: first 1 .. 10");
        BothLists x = new BothLists();
        is("1", spelling(x, "first 1;"), 1);
        is("1 letter", key(x, "abcdefghij", -1), 1);
        is("10", spelling(x, "first 10;"), 1);
        is("10 letters", key(x, "abcdefghij", -1), 10);
        badSpelling("first 0;", OUT_OF_BOUNDS, 6);
        badSpelling("first 00000;", OUT_OF_BOUNDS, 6);
        badSpelling("first 11;", OUT_OF_BOUNDS, 6);
        badSpelling("first 99999;", OUT_OF_BOUNDS, 6);
        badSpelling("double; first\n\n100", OUT_OF_BOUNDS, 15);
    }

    private static void spellingTwice() {
        says("I: 3 TWICE: a letter that same or drop has already; double, first again");
        badSpelling("same a a;", TWICE, 7);
        badSpelling("same a b b;", TWICE, 9);
        badSpelling("same a b; same c b;", TWICE, 17);
        badSpelling("same a b; same b c;", TWICE, 15);
        badSpelling("same a b; same a c;", TWICE, 15);
        badSpelling("same a b; drop a;", TWICE, 15);
        badSpelling("same a b; drop c b;", TWICE, 17);
        badSpelling("drop a a;", TWICE, 7);
        badSpelling("drop a; drop a;", TWICE, 13);
        badSpelling("drop z; same z a;", TWICE, 13);
        badSpelling("drop z; same a z;", TWICE, 15);
        badSpelling("same" + ALL_LETTERS + " a;", TWICE, 57);
        badSpelling("drop" + ALL_LETTERS + " z;", TWICE, 57);
        badSpelling("double; double;", TWICE, 8);
        badSpelling("double; drop a; double", TWICE, 16);
        badSpelling("first 1; first 1;", TWICE, 9);
        badSpelling("first 1; first 0;", TWICE, 9);
        badSpelling("first 1; first", TWICE, 9);
        BothLists x = new BothLists();
        is("ahead of the latest text they are none", spelling(x, "same a b; double; first 3;"), 3);
        is("so they may come again", spelling(x, "same a b; double; first 3;"), 3);
        spelling(x, "drop a; double; first 2; drop a;");
        is("nor those of a text with a fault", spelling(x, "drop a; double; first 2;"), 3);
    }

    private static void keyOfNoLetter() {
        says("I: (It may have no letter.)");
        BothLists x = new BothLists();
        spelling(x, "drop" + ALL_LETTERS + ";");
        is("how many", key(x, "abcdefghij", -1), 0);
        is("letter 0", key(x, "abcdefghij", 0), NONE);
        is("it may be on a list", list(x, 0, "a 5;"), 1);
        is("once", list(x, 0, "a 5; b 5;"), NONE);
        is("its number", x.number(0, 0), 8);
        list(x, 1, "zz 1;");
        is("it is one name", x.both(0), 1);
        is("though not written alike", x.near(), 1);
        is("it may go", goes(x, 0, 0, "xyz"), 1);
    }

    private static void keyDouble() {
        says("I: with double one in place of several alike behind one another (as they are then)");
        BothLists x = new BothLists();
        spelling(x, "double;");
        is("ten alike", key(x, "zzzzzzzzzz", -1), 1);
        is("at the front", key(x, "aab", -1), 2);
        is("at the end", key(x, "abb", -1), 2);
        is("apart", key(x, "abab", -1), 4);
        is("single", key(x, "a", -1), 1);
        spelling(x, "drop h; same c k; double;");
        is("dropped between", key(x, "aha", -1), 1);
        is("same between", key(x, "ckc", -1), 1);
        is("both between", key(x, "chhkhc", -1), 1);
        is("as the first of same", key(x, "khk", 0), 'c');
        spelling(x, "same c k; drop h;");
        is("without double they stay", key(x, "ckhc", -1), 3);
    }

    private static void keyFirst() {
        says("I: with first the first so many");
        BothLists x = new BothLists();
        spelling(x, "first 3;");
        is("fewer", key(x, "ab", -1), 2);
        is("as many", key(x, "abc", -1), 3);
        is("more", key(x, "abcd", -1), 3);
        is("the first", key(x, "abcd", 2), 'c');
        is("not the fourth", key(x, "abcd", 3), NONE);
        spelling(x, "first 2; double; drop a;");
        is("of what double leaves", key(x, "bbccdd", 1), 'c');
        is("of what drop leaves", key(x, "abacada", 1), 'c');
        is("no more", key(x, "abacada", -1), 2);
    }

    private static void oneName() {
        says("I: Two WORDS are ONE NAME if their KEYS are alike");
        BothLists x = new BothLists();
        is("a beginning is another name", list(x, 0, "a 1; ab 1; aa 1; abc 1; b 1; ba 1;"), 6);
        spelling(x, "first 2;");
        is("alike in the first two", list(x, 0, "ab 1; a 1; abc 1;"), NONE);
        is("the third", x.fault(1), 11);
        spelling(x, "same c k;");
        badList("a 1; b 1; a 1;", TWICE, 10);
        is("c and k", known(x, "ac; ak;"), NONE);
        is("the second", x.fault(1), 4);
        is("c and k on two lists", list(x, 0, "ac 1;") + list(x, 1, "ak 1;"), 2);
        is("are one name", x.both(0), 1);
    }

    // ---- lists and the known

    private static void listDowries() {
        says("I: each with a DOWRY 0 .. 9999");
        BothLists x = new BothLists();
        is("0 and 9999", list(x, 0, "a 0; b 9999;"), 2);
        is("their sum", x.size(0, 0, 1), 9999);
        badList("a 10000;", OUT_OF_BOUNDS, 2);
        badList("a 99999;", OUT_OF_BOUNDS, 2);
        badList("a 1; b\n10000", OUT_OF_BOUNDS, 7);
        is("0 comes", comes(x, 0, 0, "c 0"), 1);
        is("9999 comes", comes(x, 0, 0, "d 9999"), 2);
        is("10000 does not", comes(x, 0, 0, "e 10000"), NONE);
    }

    private static void listRoom() {
        says("I: 4 ROOM: the 41st WORD of a LIST");
        for (int side = 0; side < 2; side++) {
            BothLists x = new BothLists();
            is("39", list(x, side, words(39, "1;")), 39);
            is("40", list(x, side, words(40, "1;")), 40);
            is("the last one's number", x.number(side, 39) > 0 ? 1 : 0, 1);
            is("no 41st", x.number(side, 40), RANGE);
            is("41", list(x, side, words(41, "1;")), NONE);
            is("kind", x.fault(0), ROOM);
            is("place", x.fault(1), 40 * 4);
        }
        badList(words(40, "1;") + " zz", ROOM, 161);
        badList(words(40, "1;") + " zz 99999", ROOM, 161);
        badList(words(40, "1;") + " 1", SYNTAX, 161);
        badList(words(40, "1;") + " ;", SYNTAX, 161);
        badList(words(40, "1;") + " zzzzzzzzzzz", SYNTAX, 161);
    }

    private static void listTwice() {
        says("I: 3 TWICE: a WORD of a LIST (of THE KNOWN) that is ONE NAME with one ahead of it in this text");
        badList("a 1; a 1;", TWICE, 5);
        badList("a 1; b 2; a", TWICE, 10);
        badList("a 1; a 99999;", TWICE, 5);
        badList(words(40, "1;") + "aa 1;", TWICE, 160);
        badList(words(40, "1;") + "nb 1;", TWICE, 160);
        BothLists x = new BothLists();
        is("in this text alone", list(x, 0, "a 1;"), 1);
        is("the same again", list(x, 0, "a 2;"), 1);
        is("on the other list", list(x, 1, "a 3;"), 1);
        is("of the known", known(x, "a;"), 1);
        is("a fault", list(x, 0, "a 1; b 1; b 1;"), NONE);
        is("the next text", list(x, 0, "b 1; a 1;"), 2);
    }

    private static void knownRoom() {
        says("I: at most 8 WORDS that are talked of");
        BothLists x = new BothLists();
        is("7", known(x, words(7, ";")), 7);
        is("8", known(x, words(8, ";")), 8);
        is("the last one's number", x.number(2, 7), 1 + ((31 * 7 + 8) * 31 + 1) % 100);
        is("no ninth", x.number(2, 8), RANGE);
        badKnown(words(9, ";"), ROOM, 24);
        badKnown(words(8, ";") + "\nzz", ROOM, 25);
        badKnown(words(8, ";") + ";", SYNTAX, 24);
        badKnown(words(8, ";") + "1", SYNTAX, 24);
    }

    private static void knownTwice() {
        says("I: 3 TWICE: a WORD (of THE KNOWN) that is ONE NAME with one ahead of it in this text");
        badKnown("a;a;", TWICE, 2);
        badKnown("a;b;a", TWICE, 4);
        badKnown(words(8, ";") + "aa;", TWICE, 24);
        badKnown(words(8, ";") + "ha;", TWICE, 24);
        badKnown("a 1;", SYNTAX, 2);
        badKnown("a b;", SYNTAX, 2);
        BothLists x = new BothLists();
        is("the same again", known(x, "a;b;") + known(x, "b;a;"), 4);
    }

    // ---- ways

    private static void wayBagLetters() {
        says("I: B: a WORD of one letter a .. h");
        for (String who : new String[] {"one", "two"}) {
            BothLists x = new BothLists();
            is("a and h of " + who, way(x, who + " makes a;" + who + " makes h;" + who + " meets h a;" + who + " sends h;"), 4);
            badWay(who + " makes i;", SYNTAX, 10);
            badWay(who + " makes z;", SYNTAX, 10);
            badWay(who + " makes aa;", SYNTAX, 10);
            badWay(who + " makes ;", SYNTAX, 10);
            badWay(who + " turns i;", SYNTAX, 10);
            badWay(who + " sends 1;", SYNTAX, 10);
            badWay(who + " makes a;" + who + " meets a i;", SYNTAX, 24);
        }
    }

    private static void wayOwnBags() {
        says("I: Each SIDE has bags of her own by their letters");
        BothLists x = new BothLists();
        StringBuilder all = new StringBuilder();
        for (char letter = 'a'; letter <= 'h'; letter++) {
            all.append("one makes ").append(letter).append(";two makes ").append(letter).append(";");
        }
        is("sixteen bags", way(x, all.toString()), 16);
        for (char letter = 'a'; letter <= 'h'; letter++) {
            badWay("one makes " + letter + ";two turns " + letter + ";", UNKNOWN, 22);
            badWay("two makes " + letter + ";one sends " + letter + ";", UNKNOWN, 22);
        }
        badWay("one makes h; two turns a;", UNKNOWN, 23);
        badWay("two makes a; one turns h;", UNKNOWN, 23);
        list(x, 0, "a 1;");
        list(x, 1, "b 1; c 1;");
        way(x, "two makes a; one makes h; one turns h; two sends a; one sends h; two sends h;");
        x.turning(0, 2, 5);
        x.run();
        sawIs("one", x, 0, 2, 20, 21, 1, 24);
        sawIs("two", x, 1, 1, 24);
    }

    private static void wayPads() {
        says("I: pads 1 .. 60");
        BothLists x = new BothLists();
        is("1 and 60", way(x, "two makes a; two pads a 1; two pads a 60;"), 3);
        badWay("one makes a; one pads a 0;", OUT_OF_BOUNDS, 24);
        badWay("one makes a; one pads a 61;", OUT_OF_BOUNDS, 24);
        badWay("one makes a; one pads a 99999;", OUT_OF_BOUNDS, 24);
        badWay("one makes a; one pads a 0", OUT_OF_BOUNDS, 24);
        badWay("one makes a; one pads a;", SYNTAX, 23);
        badWay("one makes a; one pads a a;", SYNTAX, 24);
        badWay("one makes a; one pads 3 a;", SYNTAX, 22);
        badWay("one makes a; one pads a 3 3;", SYNTAX, 26);
    }

    private static void wayRoom() {
        says("I: 4 ROOM: the 31st LINE, at its first WORD");
        String twentyNine = "one makes a;" + "one turns a;".repeat(28);
        BothLists x = new BothLists();
        is("29", way(x, twentyNine), 29);
        is("30", way(x, twentyNine + "two makes a;"), 30);
        is("all are run", x.run(), 30);
        String thirty = twentyNine + "one mixes a;";
        badWay(thirty + "one mixes a;", ROOM, 360);
        badWay(thirty + " two", ROOM, 361);
        badWay(thirty + "\n\none eats ?", ROOM, 362);
        badWay(thirty + "three", SYNTAX, 360);
        badWay(thirty + ";", SYNTAX, 360);
        badWay(thirty + "1", SYNTAX, 360);
        badWay(twentyNine + "one mixes a", SYNTAX, 359);
    }

    private static void wayMakes() {
        says("I: makes: she has none so; afterwards she has it");
        badWay("one makes a; one makes a;", TWICE, 23);
        badWay("two makes h; two makes h", TWICE, 23);
        badWay("one makes a; one sends a; two makes a;", TWICE, 36);
        badWay("one makes a; one counts a; one makes a;", TWICE, 37);
        badWay("one makes a; one sends a; one makes a;", TWICE, 36);
        BothLists x = new BothLists();
        is("both may", way(x, "one makes a; two makes a;"), 2);
        is("she has it", way(x, "one makes a; one turns a;"), 2);
    }

    private static void waySends() {
        says("I: sends: one that she has; afterwards the other one has it, too (a copy, in place of one by that letter)");
        BothLists x = new BothLists();
        is("both have it", way(x, "one makes a; one sends a; one turns a; two turns a; two sends a;"), 5);
        is("in place of a counted one", way(x, "two makes a; two counts a; one makes a; one sends a; two turns a;"), 5);
        badWay("two makes a; one makes a; one counts a; one sends a; two turns a;", COUNTED, 63);
        badWay("one makes a; one counts a; one sends a; two counts a;", COUNTED, 51);
        is("what was counted behind it", way(x, "one makes a; one sends a; one counts a; two turns a; two sends a; one turns a;"), 6);
        badWay("one makes a; one sends a; two counts a; two sends a; one turns a;", COUNTED, 63);
        badWay("two sends a;", UNKNOWN, 10);
        list(x, 0, "a 1; b 1;");
        list(x, 1, "c 1;");
        way(x, "two makes a; one makes a; one sends a; one turns a; two sends a; one sends a;");
        x.turning(0, 2, 1);
        x.run();
        sawIs("the copy stays as it was", x, 0, 2, 19, 20);
        sawIs("and comes in place of hers", x, 1, 2, 19, 20, 2, 19, 20);
    }

    private static void wayUnknown() {
        says("I: 5 UNKNOWN: a bag that she has not");
        for (String act : new String[] {"turns", "mixes", "sends", "counts"}) {
            badWay("one " + act + " a;", UNKNOWN, 5 + act.length());
            badWay("two makes a; one " + act + " a;", UNKNOWN, 18 + act.length());
            badWay("one makes b; one " + act + " a;", UNKNOWN, 18 + act.length());
        }
        badWay("one pads a 5;", UNKNOWN, 9);
        badWay("one pads a 0;", UNKNOWN, 9);
        for (String act : new String[] {"meets", "sums"}) {
            badWay("one makes a; one " + act + " b a;", UNKNOWN, 18 + act.length());
            badWay("one makes a; one " + act + " a b;", UNKNOWN, 20 + act.length());
            badWay("one makes a; one " + act + " b c;", UNKNOWN, 18 + act.length());
            badWay("one makes a; two makes b; one " + act + " a b;", UNKNOWN, 33 + act.length());
        }
    }

    private static void wayCounted() {
        says("I: 6 COUNTED: a bag that was counted, of turns, mixes, pads, counts, meets, sums");
        String counted = "two makes b; two makes a; two counts a; ";
        int length = counted.length();
        for (String act : new String[] {"turns", "mixes", "counts", "pads"}) {
            badWay(counted + "two " + act + " a", COUNTED, length + 5 + act.length());
        }
        badWay(counted + "two pads a 0;", COUNTED, length + 9);
        for (String act : new String[] {"meets", "sums"}) {
            badWay(counted + "two " + act + " a b;", COUNTED, length + 5 + act.length());
            badWay(counted + "two " + act + " b a;", COUNTED, length + 7 + act.length());
            badWay(counted + "two " + act + " a a;", COUNTED, length + 5 + act.length());
        }
        BothLists x = new BothLists();
        is("it may be sent", way(x, counted + "two sends a; two sends a; one sends a;"), 6);
        is("the others are as they were", way(x, counted + "two turns b; two counts b; one makes a; one turns a;"), 7);
    }

    private static void wayGrammar() {
        says("I: LINE = (\"one\" | \"two\") ACT; ACT = (\"makes\" | \"turns\" | \"mixes\" | \"sends\" | \"counts\") B | ..");
        for (String who : new String[] {"lne", "oze", "onz", "on", "ones", "tvo", "wwo", "tw", "twoo", "three", "a", "makes"}) {
            badWay(who + " makes a;", SYNTAX, 0);
        }
        String start = "one makes a;one ";
        for (String act : new String[] {"takes", "make", "makess", "burns", "turn", "fixes", "mix", "lends", "send", "mounts",
            "count", "fads", "pad", "beets", "meet", "hums", "sum", "a", "one"}) {
            badWay(start + act + " a;", SYNTAX, 16);
        }
        badWay("1 makes a;", SYNTAX, 0);
        badWay("one 1 a;", SYNTAX, 4);
        badWay("one;", SYNTAX, 3);
        badWay(";", SYNTAX, 0);
        badWay("one makes a;;", SYNTAX, 12);
        badWay("one makes a one turns a;", SYNTAX, 12);
        badWay("one makes a b;", SYNTAX, 12);
        badWay("one makes a 1;", SYNTAX, 12);
        badWay(start + "meets a;", SYNTAX, 23);
        badWay(start + "meets a 1;", SYNTAX, 24);
        badWay(start + "sums a a a;", SYNTAX, 25);
    }

    // ---- faults

    private static void faultAtEnd() {
        says("I: PLACE (a TOKEN's first byte; the text's length at its end)");
        String[] lists = {"a", "a 1", "a 1; b", "a 1; b 2"};
        String[] spellings = {"same", "same a", "same a b", "drop", "drop a", "double", "first", "first 3"};
        String[] ways = {"one", "one makes", "one makes a", "one makes a; one pads a", "one makes a; one pads a 3",
            "one makes a; one meets a", "one makes a; one meets a a"};
        for (String behind : new String[] {"", " ", " \n  "}) {
            for (String text : lists) {
                badList(text + behind, SYNTAX, text.length() + behind.length());
            }
            for (String text : spellings) {
                badSpelling(text + behind, SYNTAX, text.length() + behind.length());
            }
            for (String text : ways) {
                badWay(text + behind, SYNTAX, text.length() + behind.length());
            }
            badKnown("a" + behind, SYNTAX, 1 + behind.length());
            badKnown("a; b" + behind, SYNTAX, 4 + behind.length());
        }
        badList("   \n?", SYNTAX, 4);
        badList("\n\n abcdefghijk", SYNTAX, 3);
    }

    private static void faultFirst() {
        says("I: the first come to as TOKENS are read one by one");
        badList("a 10000; a 1; ?", OUT_OF_BOUNDS, 2);
        badList("a 1; a 10000; ?", TWICE, 5);
        badList("a ? a 10000;", SYNTAX, 2);
        badList("a 10000 ?", OUT_OF_BOUNDS, 2);
        badSpelling("drop a a first 0", TWICE, 7);
        badSpelling("first 0; drop a a;", OUT_OF_BOUNDS, 6);
        badWay("one turns a; one makes a; one makes a;", UNKNOWN, 10);
        badWay("one makes a; one makes a; one turns b;", TWICE, 23);
        badWay("one makes a; one counts a; one pads a 0; one turns b;", COUNTED, 36);
        badWay("one makes a; one pads a 0; one turns b;", OUT_OF_BOUNDS, 24);
        badWay("one turns a ?", UNKNOWN, 10);
        badKnown("a;a;?", TWICE, 2);
    }

    private static void faultLeast() {
        says("I: of one TOKEN the least KIND");
        badList(words(40, "1;") + "aa 1;", TWICE, 160);
        badList(words(40, "1;") + "12", SYNTAX, 160);
        badKnown(words(8, ";") + "aa;", TWICE, 24);
        badKnown(words(8, ";") + "?", SYNTAX, 24);
        badWay("one makes a;" + "one turns a;".repeat(29) + "a", SYNTAX, 360);
    }

    private static void emptyTexts() {
        says("I: SPELLING, LIST, THE KNOWN, WAY is a text = { .. }");
        for (String text : new String[] {"", " ", "\n", " \n \n"}) {
            BothLists x = ready(11, "a 1;", "b 1;", MEETING);
            known(x, "a;");
            is("known", known(x, text), 0);
            is("list", list(x, 0, text), 0);
            is("way", way(x, text), 0);
            is("spelling", spelling(x, text), 0);
            is("no fault", x.fault(0), 0);
            is("no place", x.fault(1), NONE);
            is("list 0", x.count(0), 0);
            is("lines", x.count(3), 0);
        }
    }

    // ---- promises 4 to 9

    private static void spellingStays() {
        says("4: NONE with a FAULT (it stays)");
        BothLists x = new BothLists();
        spelling(x, "drop a;");
        spelling(x, "double; first 2;");
        spelling(x, "same c k; double;");
        list(x, 0, "cat 1;");
        list(x, 1, "dog 2;");
        known(x, "cow;");
        way(x, MEETING);
        comes(x, 0, 3, "bob 4");
        x.run();
        for (String bad : new String[] {"drop c; same", "first 1; ?", "first 11;", "drop d; drop d;", "double; drop k"}) {
            is("bad", spelling(x, bad), NONE);
            is("clauses", x.count(4), 2);
            is("same", key(x, "kattt", 0), 'c');
            is("double", key(x, "kattt", -1), 3);
            is("list 0 with a fault", x.count(0), 1);
            is("list 1 with a fault", x.count(1), 1);
            is("known with a fault", x.count(2), 1);
            is("changes with a fault", x.count(6), 1);
            is("days with a fault", x.size(0, 3, 1), 5);
            is("what was run with a fault", x.out(1, 0), 0);
        }
    }

    private static void spellingEmpties() {
        says("4: LISTS and THE KNOWN are empty then, changes of DAYS none, and what was RUN is gone");
        for (String text : new String[] {"", "double;"}) {
            BothLists x = ready(11, "a 1;", "b 1;", MEETING);
            known(x, "a;");
            comes(x, 0, 9, "c 1");
            x.run();
            spelling(x, text);
            is("list 0", x.count(0), 0);
            is("list 1", x.count(1), 0);
            is("known", x.count(2), 0);
            is("changes", x.count(6), 0);
            is("nobody as of a day", x.size(0, 9, 0), 0);
            is("days begin anew", comes(x, 0, 0, "c 1"), 1);
            is("run", x.out(1, 0), STATE);
            is("saw", x.saw(1, -1), NOT_SEEN);
            is("the way stays", x.count(3), 4);
            is("P stays", x.count(5), 11);
            is("and may be run", x.run(), 4);
        }
    }

    private static void listStays() {
        says("5: NONE with a FAULT (it stays)");
        BothLists x = new BothLists();
        list(x, 0, "e 5; f 6; g 7;");
        list(x, 0, "a 1; b 2; c 3;");
        list(x, 1, "d 9;");
        way(x, MEETING);
        goes(x, 0, 3, "a");
        x.run();
        for (String bad : new String[] {"z 1", "z 1; z 1;", "z 10000;", "?", "z 7; y 8; x 9; w", words(41, "1;")}) {
            is("bad", list(x, 0, bad), NONE);
            is("words", x.count(0), 3);
            is("the first", x.number(0, 0), 19);
            is("the last", x.number(0, 2), 21);
            is("no other", x.number(0, 3), RANGE);
            is("dowries", x.size(0, 0, 1), 6);
            is("changes with a fault", x.size(0, 3, 1), 5);
            is("what was run with a fault", x.out(1, 0), 0);
            is("of the other one", list(x, 1, bad), NONE);
            is("it stays, too", x.number(1, 0), 22);
        }
    }

    private static void listNoSide() {
        says("5: RANGE: no such SIDE");
        for (int side : NO_SIDES) {
            BothLists x = ready(11, "a 1;", "b 1; c 1;", MEETING);
            known(x, "a;");
            x.run();
            comes(x, 0, 0, "z 1");
            is("side " + side, list(x, side, "d 1; e 1; f 1;"), RANGE);
            is("side " + side + ", a bad text", list(x, side, "?"), RANGE);
            is("no fault of it", x.fault(0), 0);
            is("list 0", x.count(0), 1);
            is("list 1", x.count(1), 2);
            is("known", x.count(2), 1);
            is("changes", x.count(6), 1);
            is("what was run", x.out(1, 0), 0);
        }
    }

    private static void listEndsDays() {
        says("5: Changes of DAYS are none then, and what was RUN is gone");
        for (int side = 0; side < 2; side++) {
            BothLists x = ready(11, "a 1; b 1;", "b 1; c 1;", MEETING);
            x.run();
            goes(x, 0, 7, "a");
            comes(x, 1, 8, "z 1");
            is("one has", x.size(0, 8, 0), 1);
            is("two has", x.size(1, 8, 0), 3);
            is("a list", list(x, side, "d 1; e 1;"), 2);
            is("changes", x.count(6), 0);
            is("one has then", x.size(0, 400, 0), 2);
            is("two has then", x.size(1, 400, 0), 2);
            is("days begin anew", comes(x, 1 - side, 0, "y 1"), 1);
            is("run", x.out(1, 0), STATE);
        }
    }

    private static void listShorter() {
        says("5: THE TAPE is the LIST of a SIDE: how many WORDS");
        BothLists x = new BothLists();
        for (int i = 0; i < 3; i++) {
            list(x, 0, "a 1; b 20; c 300;");
            list(x, 1, "a 1; b 20; c 300; d 4000;");
        }
        for (int i = 0; i < 3; i++) {
            is("one word", list(x, 0, "d 5;"), 1);
            is("one word of two", list(x, 1, "b 6;"), 1);
            is("count", x.count(0), 1);
            is("no second", x.number(0, 1), RANGE);
            is("size", x.size(0, 0, 0), 1);
            is("dowries", x.size(0, 400, 1), 5);
            is("both", x.both(0), 0);
            is("near", x.near(), 0);
            is("nobody else goes", goes(x, 0, 0, "b"), NONE);
            is("others may come", comes(x, 0, 0, "b 1"), 1);
            // By 101 d is 22, and three times 22 is 66.
            is("row", x.thrown(0, 62, 1), 1L << 66 % 62);
        }
    }

    private static void knownStays() {
        says("6: NONE with a FAULT (it stays)");
        BothLists x = new BothLists();
        known(x, "e; f;");
        known(x, "a; b; c;");
        for (String bad : new String[] {"z", "z; z;", "z 1;", "?", words(9, ";"), "z; y; x; w; ;"}) {
            is("bad", known(x, bad), NONE);
            is("words", x.count(2), 3);
            is("the first", x.number(2, 0), 19);
            is("the last", x.number(2, 2), 21);
            is("no other", x.number(2, 3), RANGE);
        }
    }

    private static void knownShorter() {
        says("6: THE TAPE is THE KNOWN: how many WORDS");
        BothLists x = ready(11, "a 1;", "b 1;", "one makes a; one sends a;");
        for (int i = 0; i < 3; i++) {
            known(x, "a; b; c; d;");
        }
        x.run();
        is("a was sent", x.read(1), 1);
        is("sixteen lists", x.agree(0, 0), 16);
        for (int i = 0; i < 3; i++) {
            is("one word", known(x, "b;"), 1);
            is("no second", x.number(2, 1), RANGE);
            is("none was sent", x.read(1), 0);
            is("two lists", x.agree(0, 0), 2);
            is("no known 1", x.surely(0, 1), RANGE);
        }
    }

    private static void wayStays() {
        says("7: NONE with a FAULT (it stays)");
        BothLists x = ready(11, "a 1;", "b 1; c 1;", "one makes c;");
        way(x, "two makes b; two sends b;");
        way(x, "one makes a; one sends a; two makes b; two sends b;");
        x.run();
        for (String bad : new String[] {"one", "two makes c; two sends c; two turns d;", "one makes a; one pads a 61;",
            "one makes a; one makes a;", "one makes a; one counts a; one turns a;", "?"}) {
            is("bad", way(x, bad), NONE);
            is("lines", x.count(3), 4);
            is("what was run with a fault", x.saw(1, -1), 2);
            is("it is run", x.run(), 4);
            sawIs("one", x, 0, 2, 10, 1);
            sawIs("two", x, 1, 1, 9);
        }
        says("7: What was RUN is gone");
        is("a good one", way(x, ""), 0);
        is("out", x.out(0, 0), STATE);
        is("run", x.run(), STATE);
    }

    private static void fault() {
        says("8: Of the latest of these four that was not RANGE, what 0: its FAULT's KIND, 0 without (and ahead of any), 1: its PLACE (NONE). NONE for another what");
        BothLists x = new BothLists();
        is("ahead of any", x.fault(0), 0);
        is("place ahead of any", x.fault(1), NONE);
        for (int what : new int[] {2, -1, 10, LEAST, MOST}) {
            is("what " + what, x.fault(what), NONE);
        }
        int[][] due = {{SYNTAX, 1}, {TWICE, 5}, {OUT_OF_BOUNDS, 6}, {UNKNOWN, 10}};
        for (int latest = 0; latest < 4; latest++) {
            switch (latest) {
                case 0 -> known(x, "a");
                case 1 -> list(x, 0, "a 1; a 1;");
                case 2 -> spelling(x, "first 0;");
                default -> way(x, "one turns a;");
            }
            is("kind of " + latest, x.fault(0), due[latest][0]);
            is("place of " + latest, x.fault(1), due[latest][1]);
            for (int side : NO_SIDES) {
                is("RANGE", list(x, side, ""), RANGE);
            }
            key(x, "?", 0);
            comes(x, 0, 0, "?");
            goes(x, 0, 0, "?");
            is("kind behind others", x.fault(0), due[latest][0]);
            is("place behind others", x.fault(1), due[latest][1]);
            is("asking leaves it", x.fault(1), due[latest][1]);
            is("what 2 with a fault", x.fault(2), NONE);
            is("what -1 with a fault", x.fault(-1), NONE);
        }
        for (int good = 0; good < 4; good++) {
            known(x, "a");
            switch (good) {
                case 0 -> known(x, "a;");
                case 1 -> list(x, 0, "a 1;");
                case 2 -> spelling(x, "");
                default -> way(x, "one makes a;");
            }
            is("without, kind " + good, x.fault(0), 0);
            is("without, place " + good, x.fault(1), NONE);
        }
    }

    private static void key() {
        says("9: NONE: it is none, or the KEY has no such letter; for i = -1 how many the KEY has");
        BothLists x = new BothLists();
        for (String none : new String[] {"", "  ", "a b", "a;", ";", "1", "a1", "a 1", "?", "a?", "A", "abcdefghijk"}) {
            is("no word, how many: " + none, key(x, none, -1), NONE);
            is("no word, letter 0: " + none, key(x, none, 0), NONE);
        }
        for (String word : new String[] {"az", " az", "az ", "\n az\n "}) {
            is("how many", key(x, word, -1), 2);
            is("letter 0", key(x, word, 0), 'a');
            is("letter 1", key(x, word, 1), 'z');
            for (int i : new int[] {2, 10, -2, LEAST, MOST}) {
                is("no letter " + i, key(x, word, i), NONE);
            }
        }
        byte[] bytes = "a\u00ff".getBytes(StandardCharsets.ISO_8859_1);
        Put.bytes(x, bytes);
        is("a byte above 127", x.key(0), NONE);
    }
}
