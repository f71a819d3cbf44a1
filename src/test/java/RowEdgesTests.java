import java.math.BigInteger;

/**
 * Terms IV and promises 24 to 34, rows of bits, days and a judge: every sentence that names an edge,
 * one method each, with its words. By 11 the NUMBERS of a, b, c, d are 9, 10, 1, 2; by 5 they are 3, 4, 1, 2.
 */
public final class RowEdgesTests extends Common {
    private static final int HIGHEST = 2147483647;

    public static void main(String[] args) {
        begin("RowEdgesTests");
        rowBounds();
        rowModulo();
        rowOfList();
        strangersBounds();
        strangersOfNames();
        strangersUpToP();
        cheapestBounds();
        cheapestLeast();
        cheapestNone();
        near();
        nearAsTold();
        dayBounds();
        daysNeverFall();
        refusedDays();
        comesText();
        comesName();
        comesFullOfChanges();
        comesFullList();
        goesText();
        goesName();
        goesFull();
        asOf();
        asTold();
        sameDay();
        both();
        size();
        caughtBounds();
        caughtLeast();
        caughtOfAll();
        openedBounds();
        openedLeast();
        openedNone();
        count();
        finish();
    }

    // ---- promises 24 to 27

    private static void rowBounds() {
        says("IV: a row of m bits (1 .. 62), by h throws (1 .. 6); 24: RANGE: SIDE, m, h");
        BothLists x = new BothLists();
        list(x, 0, "a 1;");
        for (int m : new int[] {1, 2, 61, 62}) {
            for (int h : new int[] {1, 6}) {
                is("thrown " + m + " " + h, x.thrown(0, m, h) > 0 ? 1 : 0, 1);
                is("no bit above m", x.thrown(0, m, h) >>> m, 0);
                is("strangers " + m + " " + h, x.strangers(0, m, h) >= 0 ? 1 : 0, 1);
            }
        }
        for (int m : new int[] {0, 63, 64, -1, LEAST, MOST}) {
            is("thrown m " + m, x.thrown(0, m, 1), RANGE);
            is("strangers m " + m, x.strangers(0, m, 1), RANGE);
        }
        for (int h : new int[] {0, 7, -1, LEAST, MOST}) {
            is("thrown h " + h, x.thrown(0, 8, h), RANGE);
            is("strangers h " + h, x.strangers(0, 8, h), RANGE);
        }
        for (int side : NO_SIDES) {
            is("thrown side " + side, x.thrown(side, 8, 1), RANGE);
            is("strangers side " + side, x.strangers(side, 8, 1), RANGE);
            is("cheapest side " + side, x.cheapest(side, 0), RANGE);
        }
    }

    private static void rowModulo() {
        says("IV: a number x throws the bits (x times (2 j + 3) and j) modulo m, j 0 .. h - 1");
        BothLists x = new BothLists();
        x.prime(11);
        list(x, 0, "c 1;");
        // 1 throws 3, 6, 9, 12, 15, 18.
        is("one throw", x.thrown(0, 62, 1), 1L << 3);
        is("six throws", x.thrown(0, 62, 6), 1L << 3 | 1L << 6 | 1L << 9 | 1L << 12 | 1L << 15 | 1L << 18);
        is("by 3 all are one bit", x.thrown(0, 3, 6), 1);
        is("by 18", x.thrown(0, 18, 6), 1L << 3 | 1L << 6 | 1L << 9 | 1L << 12 | 1L << 15 | 1);
        is("by 19", x.thrown(0, 19, 6), 1L << 3 | 1L << 6 | 1L << 9 | 1L << 12 | 1L << 15 | 1L << 18);
        is("by 1", x.thrown(0, 1, 6), 1);
        x.prime(HIGHEST);
        list(x, 1, "zzzzzzzzzz 1; abcdefghij 1;");
        for (int m = 1; m <= 62; m++) {
            for (int h = 1; h <= 6; h++) {
                long row = 0;
                for (int i = 0; i < 2; i++) {
                    for (int j = 0; j < h; j++) {
                        BigInteger thrown = BigInteger.valueOf(x.number(1, i)).multiply(BigInteger.valueOf(2 * j + 3)).add(BigInteger.valueOf(j));
                        row |= 1L << thrown.mod(BigInteger.valueOf(m)).intValue();
                    }
                }
                is("large numbers " + m + " " + h, x.thrown(1, m, h), row);
            }
            if (m % 20 == 0) {
                x = new BothLists();
                x.prime(HIGHEST);
                list(x, 1, "zzzzzzzzzz 1; abcdefghij 1;");
            }
        }
        BothLists y = new BothLists();
        list(y, 0, "w 1;");
        // 3 times 41 is 123, 61 modulo 62.
        is("w", y.number(0, 0), 41);
        is("the highest bit there is", y.thrown(0, 62, 1), 1L << 61);
    }

    private static void rowOfList() {
        says("IV: ROW of a LIST: all bits that its NUMBERS throw");
        BothLists x = new BothLists();
        x.prime(11);
        is("nobody", x.thrown(0, 62, 6), 0);
        list(x, 0, "c 1; d 1;");
        is("1 and 2", x.thrown(0, 62, 1), 1L << 3 | 1L << 6);
        is("the other one's", x.thrown(1, 62, 1), 0);
        comes(x, 0, 0, "a 1");
        goes(x, 0, 0, "c");
        is("as they were told", x.thrown(0, 62, 1), 1L << 3 | 1L << 6);
        is("strangers as they were told", x.strangers(0, 62, 1), 0);
        list(x, 0, words(40, " 1;"));
        is("forty", x.thrown(0, 1, 1), 1);
        is("all ten numbers", x.strangers(0, 1, 1), 0);
    }

    private static void strangersBounds() {
        says("25: STRANGERS; RANGE; STATE: P is above 3000");
        BothLists x = new BothLists();
        list(x, 0, "a 1;");
        x.prime(2999);
        is("2999", x.strangers(0, 1, 1), 2997);
        is("2999, a long row", x.strangers(0, 62, 1), 2998 / 62 - 1 + (2998 % 62 >= x.number(0, 0) % 62 ? 1 : 0));
        for (int p : new int[] {3001, 3011, HIGHEST}) {
            x.prime(p);
            is("strangers by " + p, x.strangers(0, 1, 1), STATE);
            is("cheapest by " + p, x.cheapest(0, 0), STATE);
            is("m 0 by " + p, x.strangers(0, 0, 1), RANGE);
            is("h 7 by " + p, x.strangers(0, 1, 7), RANGE);
            is("side 2 by " + p, x.strangers(2, 1, 1), RANGE);
            is("most -1 by " + p, x.cheapest(0, -1), RANGE);
            is("cheapest side 2 by " + p, x.cheapest(2, 0), RANGE);
            is("the row is told", x.thrown(0, 1, 1), 1);
        }
    }

    private static void strangersOfNames() {
        says("IV: STRANGERS: how many of the numbers 1 .. P - 1 that no NAME of the LIST has seem to be in (all their bits are in the ROW)");
        BothLists x = new BothLists();
        x.prime(5);
        is("an empty row", x.strangers(0, 1, 6), 0);
        list(x, 0, "a 1;");
        is("a row of one", x.strangers(0, 1, 1), 3);
        list(x, 0, "a 1; e 1; i 1;");
        is("three names of one number", x.strangers(0, 1, 1), 3);
        list(x, 0, "a 1; b 1; c 1; d 1;");
        is("all numbers have names", x.strangers(0, 1, 1), 0);
        // By 11 and 2: c throws 1 by the first throw, and 6 modulo 2, 0, by the second.
        x.prime(11);
        list(x, 0, "c 1;");
        is("odd ones", x.strangers(0, 2, 1), 4);
        is("both bits are in: all", x.strangers(0, 2, 2), 9);
        // By 8: 3 and 6 are in; 2 throws 6 and 11, 3; 9 throws 27, 3 and 46, 6; 10 throws 30, 6 and 51, 3.
        is("all their bits", x.strangers(0, 8, 2), 3);
        is("the first bit alone", x.strangers(0, 8, 1), 1);
    }

    private static void strangersUpToP() {
        says("IV: of the numbers 1 .. P - 1");
        // By 12 the number 5 throws 3, as 1 does, but P is 5; and by 6 1, 3 and 5 throw 3.
        BothLists x = new BothLists();
        x.prime(5);
        list(x, 0, "c 1;");
        is("P is none", x.strangers(0, 12, 1), 0);
        is("3 is one, P is none", x.strangers(0, 6, 1), 1);
        // By 3 all throw 0; 0 would, too.
        is("0 is none", x.strangers(0, 3, 1), 3);
        for (int p : new int[] {5, 7, 31, 61}) {
            for (int m : new int[] {1, 2, p - 1, p, p + 1, 62}) {
                BothLists y = new BothLists();
                y.prime(p);
                list(y, 1, "a 1; c 1; z 1;");
                long row = y.thrown(1, Math.min(m, 62), 2);
                int strange = 0;
                for (int n = 1; n < p; n++) {
                    int q = Math.min(m, 62);
                    boolean own = n == y.number(1, 0) || n == y.number(1, 1) || n == y.number(1, 2);
                    strange += !own && (row >>> 3L * n % q & 1) == 1 && (row >>> (5L * n + 1) % q & 1) == 1 ? 1 : 0;
                }
                is("by " + p + " and " + m, y.strangers(1, Math.min(m, 62), 2), strange);
            }
        }
    }

    private static void cheapestBounds() {
        says("26: CHEAPEST with no more STRANGERS than most (0 or more)");
        BothLists x = new BothLists();
        x.prime(11);
        is("nobody on the list", x.cheapest(0, 0), 11);
        list(x, 0, "c 1;");
        is("-1", x.cheapest(0, -1), RANGE);
        is("least", x.cheapest(0, LEAST), RANGE);
        is("most", x.cheapest(0, MOST), 11);
        is("as many as there are", x.cheapest(0, 9), 11);
        // Of 1 by 2 and one throw: 3, 5, 7, 9 seem to be in.
        is("one fewer", x.cheapest(0, 8), 21);
        is("four", x.cheapest(0, 4), 21);
        // By 3 all throw 0 first; with two throws 1 throws 0 and 0, 4, 7, 10 as well.
        is("three", x.cheapest(0, 3), 32);
        comes(x, 0, 0, "a 1");
        is("as they were told", x.cheapest(0, 9), 11);
    }

    private static void cheapestLeast() {
        says("IV: CHEAPEST: the least m, then the least h, with which there are no more STRANGERS than so many");
        for (int most : new int[] {0, 1, 2, 5}) {
            for (int p : new int[] {5, 11, 31, 59}) {
                BothLists x = new BothLists();
                x.prime(p);
                list(x, 0, "a 1; d 1;");
                int want = x.cheapest(0, most);
                int found = NONE;
                for (int m = 1; m <= 62 && found == NONE; m++) {
                    for (int h = 1; h <= 6 && found == NONE; h++) {
                        found = x.strangers(0, m, h) <= most ? 10 * m + h : NONE;
                    }
                }
                is("by " + p + " with " + most, want, found);
            }
        }
    }

    private static void cheapestNone() {
        says("26: 10 times m, and h; NONE; RANGE; STATE likewise");
        BothLists x = new BothLists();
        x.prime(2999);
        is("nobody by 2999", x.cheapest(0, 0), 11);
        list(x, 0, "a 1;");
        is("none does", x.cheapest(0, 0), NONE);
        is("all but her own may", x.cheapest(0, 2997), 11);
        // A row of 62 and one throw leaves the fewest: those with her number's rest by 62.
        int fewest = x.strangers(0, 62, 1);
        is("the fewest", x.cheapest(0, fewest) == NONE ? 0 : 1, 1);
        // By 61 60 numbers and a row of 61: each throws a bit of its own.
        x.prime(61);
        is("by 61", x.cheapest(0, 0) <= 611 && x.cheapest(0, 0) > 0 ? 1 : 0, 1);
    }

    private static void near() {
        says("27: NEAR: how many pairs of a WORD of LIST 0 and one of LIST 1 are ONE NAME, though not written alike");
        BothLists x = new BothLists();
        is("nobody", x.near(), 0);
        list(x, 0, "a 1; b 1;");
        is("one list alone", x.near(), 0);
        list(x, 1, "a 5; b 6;");
        is("all written alike", x.near(), 0);
        spelling(x, "drop h;");
        list(x, 0, "ah 1; bh 1; h 1;");
        list(x, 1, "hah 1; b 1; hh 1;");
        is("three pairs", x.near(), 3);
        list(x, 1, "ah 1; c 1;");
        is("one of them written alike", x.near(), 0);
        list(x, 1, "c 1; d 1;");
        is("no name of both", x.near(), 0);
    }

    private static void nearAsTold() {
        says("IV: The LISTS as they are for all else: as they were told");
        BothLists x = new BothLists();
        spelling(x, "same c k;");
        list(x, 0, "ac 1;");
        list(x, 1, "ak 1;");
        is("a pair", x.near(), 1);
        goes(x, 0, 0, "ac");
        is("though one went", x.near(), 1);
        comes(x, 0, 0, "bc 1");
        comes(x, 1, 0, "bk 1");
        is("though others came", x.near(), 1);
    }

    // ---- promises 28 to 31

    private static void dayBounds() {
        says("IV: DAYS 0 .. 400");
        for (int day : new int[] {0, 1, 399, 400}) {
            BothLists x = new BothLists();
            is("comes at " + day, comes(x, 0, day, "a 1"), 1);
            is("goes at " + day, goes(x, 0, day, "a"), 2);
            is("both at " + day, x.both(day), 0);
            is("size at " + day, x.size(0, day, 0), 0);
        }
        for (int day : new int[] {-1, 401, LEAST, MOST}) {
            BothLists x = new BothLists();
            list(x, 1, "a 1;");
            is("comes at " + day, comes(x, 0, day, "b 1"), RANGE);
            is("goes at " + day, goes(x, 1, day, "a"), RANGE);
            is("both at " + day, x.both(day), RANGE);
            is("size at " + day, x.size(0, day, 0), RANGE);
            is("no change", x.count(6), 0);
        }
    }

    private static void daysNeverFall() {
        says("IV: a change of a LIST at a DAY (never falling)");
        BothLists x = new BothLists();
        list(x, 0, "a 1; b 1;");
        is("at 5", goes(x, 0, 5, "a"), 1);
        is("comes at 4", comes(x, 0, 4, "c 1"), RANGE);
        is("goes at 4", goes(x, 0, 4, "b"), RANGE);
        is("comes at 0", comes(x, 0, 0, "c 1"), RANGE);
        is("of the other list at 4", comes(x, 1, 4, "c 1"), RANGE);
        is("of the other list at 5", comes(x, 1, 5, "c 1"), 2);
        is("at 5 again", goes(x, 0, 5, "b"), 3);
        is("at 6", comes(x, 0, 6, "d 1"), 4);
        is("goes at 5", goes(x, 1, 5, "c"), RANGE);
        is("at 400", goes(x, 1, 400, "c"), 5);
        is("at 399", comes(x, 1, 399, "e 1"), RANGE);
        is("at 400 again", comes(x, 1, 400, "e 1"), 6);
        is("a list", list(x, 0, ""), 0);
        is("changes are none: at 0", comes(x, 1, 0, "e 1"), 1);
        spelling(x, "");
        is("spelling, too: at 0", comes(x, 1, 0, "e 1"), 1);
    }

    private static void refusedDays() {
        says("28, 29: RANGE, NONE, FULL");
        BothLists x = new BothLists();
        list(x, 0, words(40, " 1;"));
        is("FULL at 9", comes(x, 0, 9, "zz 1"), FULL);
        is("NONE at 9", comes(x, 0, 9, "aa 1"), NONE);
        is("no text at 9", comes(x, 0, 9, "?"), NONE);
        is("NONE goes at 9", goes(x, 0, 9, "zz"), NONE);
        is("no word at 9", goes(x, 0, 9, "aa 1"), NONE);
        is("RANGE at 401", goes(x, 0, 401, "aa"), RANGE);
        is("no side at 9", goes(x, 2, 9, "aa"), RANGE);
        is("no change was made", x.count(6), 0);
        is("forty are there", x.size(0, 400, 0), 40);
        is("so 3 does not fall", goes(x, 0, 3, "aa"), 1);
        is("nor does 3 again", comes(x, 0, 3, "zz 5"), 2);
        is("RANGE leaves all", comes(x, 0, 2, "aa 1"), RANGE);
        is("two changes", x.count(6), 2);
        is("dowries", x.size(0, 3, 1), 39 + 5);
    }

    private static void comesText() {
        says("28: THE TAPE is a WORD and a DOWRY (as one of a LIST, without ;); NONE: it is no such text");
        BothLists x = new BothLists();
        String[] none = {"", " ", "a", "1", "a ;", "a 1;", "a 1 ;", "a 1 b", "a 1 1", "a b 1", "1 a", "a 10000", "a 99999", "a 000001",
            "abcdefghijk 1", "A 1", "a -1", "a 1?", "?a 1", "a 1\t"};
        for (String text : none) {
            is("text " + text, comes(x, 0, 0, text), NONE);
        }
        is("no change", x.count(6), 0);
        String[] good = {"a1", " b 0 ", "\nc\n9999\n", "abcdefghij 00001", "d    5"};
        for (int i = 0; i < good.length; i++) {
            is("text " + good[i], comes(x, 0, 0, good[i]), i + 1);
        }
        is("dowries", x.size(0, 0, 1), 1 + 9999 + 1 + 5);
        is("a text that is none, RANGE ahead", comes(x, 0, 401, "?"), RANGE);
    }

    private static void comesName() {
        says("28: NONE: a NAME of that LIST AS OF that DAY");
        BothLists x = new BothLists();
        spelling(x, "same c k;");
        list(x, 0, "cat 1;");
        is("written alike", comes(x, 0, 0, "cat 2"), NONE);
        is("one name", comes(x, 0, 0, "kat 2"), NONE);
        is("of the other list it is none", comes(x, 1, 0, "kat 2"), 1);
        is("who came", comes(x, 0, 3, "dog 2"), 2);
        is("is a name that day", comes(x, 0, 3, "dog 2"), NONE);
        is("and behind it", comes(x, 0, 4, "dog 2"), NONE);
        is("who went", goes(x, 0, 5, "kat"), 3);
        is("may come that day", comes(x, 0, 5, "kat 7"), 4);
        is("with another dowry", x.size(0, 5, 1), 9);
        is("and is a name again", comes(x, 0, 6, "cat 1"), NONE);
    }

    private static void fortyChanges(BothLists x, int day) {
        for (int i = 0; i < 20; i++) {
            is("comes", comes(x, 1, day, "x 1"), 2 * i + 1);
            is("goes", goes(x, 1, day, "x"), 2 * i + 2);
        }
    }

    private static void comesFullOfChanges() {
        says("28: FULL: 40 changes were");
        BothLists x = new BothLists();
        fortyChanges(x, 2);
        is("the 41st", comes(x, 0, 2, "a 1"), FULL);
        is("of the other list", comes(x, 1, 2, "a 1"), FULL);
        is("later", comes(x, 0, 400, "a 1"), FULL);
        is("it did not come", x.size(0, 400, 0), 0);
        is("still forty", x.count(6), 40);
        is("no text", comes(x, 0, 2, "a"), NONE);
        is("RANGE", comes(x, 0, 1, "a 1"), RANGE);
        list(x, 0, "a 1;");
        is("a list ends them", comes(x, 0, 0, "b 1"), 1);
        // 39 changes leave room for one.
        BothLists y = new BothLists();
        fortyChanges(y, 0);
        list(y, 0, "");
        for (int i = 0; i < 39; i++) {
            comes(y, 0, i, words(40, "").substring(2 * i, 2 * i + 2) + " 1");
        }
        is("the 40th", comes(y, 0, 400, "zz 1"), 40);
        is("forty came", y.size(0, 400, 0), 40);
        is("the 41st again", comes(y, 1, 400, "zz 1"), FULL);
        is("a name is NONE", comes(y, 0, 400, "zz 1"), NONE);
    }

    private static void comesFullList() {
        says("28: FULL: the LIST would have more than 40");
        for (int side = 0; side < 2; side++) {
            BothLists x = new BothLists();
            list(x, side, words(39, " 1;"));
            is("the 40th", comes(x, side, 1, "zz 1"), 1);
            is("the 41st", comes(x, side, 1, "yy 1"), FULL);
            is("the 41st later", comes(x, side, 9, "yy 1"), FULL);
            is("to the other list", comes(x, 1 - side, 1, "yy 1"), 2);
            is("one goes", goes(x, side, 1, "aa"), 3);
            is("then one comes", comes(x, side, 1, "yy 1"), 4);
            is("and no more", comes(x, side, 1, "xx 1"), FULL);
            is("forty", x.size(side, 1, 0), 40);
            is("thirty-nine ahead", x.size(side, 0, 0), 39);
        }
    }

    private static void goesText() {
        says("29: THE TAPE is a WORD; NONE: it is no WORD");
        BothLists x = new BothLists();
        list(x, 0, "a 1; b 1; abcdefghij 1;");
        for (String text : new String[] {"", " ", "1", ";", "a;", "a 1", "a b", "a1", "A", "?", "a?", "abcdefghijk", "a\t"}) {
            is("text " + text, goes(x, 0, 0, text), NONE);
        }
        is("no change", x.count(6), 0);
        is("with blanks about it", goes(x, 0, 0, " \na \n"), 1);
        is("ten letters", goes(x, 0, 0, "abcdefghij"), 2);
        is("RANGE ahead of NONE", goes(x, 0, 401, "?"), RANGE);
        for (int side : NO_SIDES) {
            is("goes, side " + side, goes(x, side, 0, "b"), RANGE);
            is("comes, side " + side, comes(x, side, 0, "c 1"), RANGE);
        }
        is("two changes", x.count(6), 2);
    }

    private static void goesName() {
        says("29: NONE: no NAME of that LIST AS OF that DAY");
        BothLists x = new BothLists();
        spelling(x, "same c k;");
        is("nobody is there", goes(x, 0, 0, "cat"), NONE);
        list(x, 0, "cat 1; dog 1;");
        is("of the other list", goes(x, 1, 0, "cat"), NONE);
        is("none such", goes(x, 0, 0, "cow"), NONE);
        is("one name", goes(x, 0, 3, "kat"), 1);
        is("went already", goes(x, 0, 3, "cat"), NONE);
        is("went already, later", goes(x, 0, 4, "cat"), NONE);
        is("comes", comes(x, 0, 5, "kat 9"), 2);
        is("goes again", goes(x, 0, 5, "cat"), 3);
        is("and is gone", goes(x, 0, 6, "cat"), NONE);
        is("dog is there", x.size(0, 6, 0), 1);
    }

    private static void goesFull() {
        says("29: FULL: 40 changes were");
        BothLists x = new BothLists();
        list(x, 0, "a 1;");
        fortyChanges(x, 0);
        is("the 41st", goes(x, 0, 0, "a"), FULL);
        is("it is there", x.size(0, 400, 0), 1);
        is("no name is NONE", goes(x, 0, 0, "b"), NONE);
        is("no side is RANGE", goes(x, 2, 0, "a"), RANGE);
        is("still forty", x.count(6), 40);
        BothLists y = new BothLists();
        list(y, 0, words(40, " 1;"));
        for (int i = 0; i < 40; i++) {
            is("goes " + i, goes(y, 0, i, words(40, "").substring(2 * i, 2 * i + 2)), i + 1);
        }
        is("nobody is there", y.size(0, 39, 0), 0);
        is("one is there ahead", y.size(0, 38, 0), 1);
        is("forty at first are thirty-nine by day 0", y.size(0, 0, 0), 39);
    }

    private static void asOf() {
        says("IV: LISTS AS OF a DAY: as they were told, with all changes to that DAY");
        BothLists x = new BothLists();
        list(x, 0, "a 1; b 20;");
        comes(x, 0, 10, "c 300");
        goes(x, 0, 20, "a");
        comes(x, 0, 30, "a 4000");
        goes(x, 0, 40, "b");
        int[][] due = {{0, 2, 21}, {9, 2, 21}, {10, 3, 321}, {19, 3, 321}, {20, 2, 320}, {29, 2, 320}, {30, 3, 4320}, {39, 3, 4320},
            {40, 2, 4300}, {41, 2, 4300}, {400, 2, 4300}};
        for (int[] row : due) {
            is("names at " + row[0], x.size(0, row[0], 0), row[1]);
            is("dowries at " + row[0], x.size(0, row[0], 1), row[2]);
        }
        BothLists y = new BothLists();
        list(y, 0, "a 1;");
        comes(y, 0, 0, "b 2");
        goes(y, 0, 0, "a");
        is("changes of day 0 hold at day 0", y.size(0, 0, 1), 2);
    }

    private static void asTold() {
        says("IV: The LISTS as they are for all else: as they were told");
        BothLists x = ready(11, "a 1; b 2;", "b 3;", MEETING);
        goes(x, 0, 0, "b");
        comes(x, 1, 0, "a 9");
        is("words of one", x.count(0), 2);
        is("words of two", x.count(1), 1);
        is("number of b", x.number(0, 1), 10);
        is("no number of a for two", x.number(1, 1), RANGE);
        x.run();
        is("b is met", x.out(1, 0), 1);
        is("no place of a", x.out(1, 11), NONE);
        is("row of two", x.thrown(1, 62, 1), 1L << 30);
        is("strangers of two", x.strangers(1, 1, 1), 9);
    }

    private static void sameDay() {
        says("IV: with all changes to that DAY");
        BothLists x = new BothLists();
        list(x, 0, "a 1;");
        for (int i = 0; i < 5; i++) {
            goes(x, 0, 7, "a");
            comes(x, 0, 7, "a " + (i + 2));
        }
        is("changes", x.count(6), 10);
        is("the day ahead", x.size(0, 6, 1), 1);
        is("that day", x.size(0, 7, 1), 6);
        is("one name", x.size(0, 7, 0), 1);
        comes(x, 0, 8, "b 5");
        goes(x, 0, 8, "b");
        is("came and went", x.size(0, 8, 0), 1);
        is("it is no name then", goes(x, 0, 8, "b"), NONE);
    }

    private static void both() {
        says("30: BOTH at a DAY; RANGE; IV: how many NAMES are on both");
        BothLists x = new BothLists();
        is("of empty lists", x.both(0) + x.both(400), 0);
        spelling(x, "same c k;");
        list(x, 0, "cat 1; dog 1; cow 1;");
        is("of one list", x.both(0), 0);
        list(x, 1, "kow 1; kat 1;");
        is("written otherwise", x.both(0), 2);
        goes(x, 0, 3, "kow");
        comes(x, 1, 3, "dog 1");
        goes(x, 1, 4, "cat");
        comes(x, 0, 5, "kow 5");
        int[][] due = {{0, 2}, {2, 2}, {3, 2}, {4, 1}, {5, 2}, {400, 2}};
        for (int[] row : due) {
            is("at " + row[0], x.both(row[0]), row[1]);
        }
        BothLists y = ready(11, words(40, " 1;"), words(40, " 2;"), MEETING);
        is("forty", y.both(0), 40);
        for (int day : new int[] {-1, 401, LEAST, MOST}) {
            is("day " + day, x.both(day), RANGE);
        }
    }

    private static void size() {
        says("31: what 0; the sum of their DOWRIES, what 1; RANGE");
        BothLists x = new BothLists();
        list(x, 0, words(40, " 9999;"));
        is("names", x.size(0, 0, 0), 40);
        is("the highest sum", x.size(0, 400, 1), 399960);
        is("of nobody", x.size(1, 0, 0) + x.size(1, 0, 1), 0);
        for (int what : new int[] {-1, 2, LEAST, MOST}) {
            is("what " + what, x.size(0, 0, what), RANGE);
        }
        for (int side : NO_SIDES) {
            is("side " + side, x.size(side, 0, 0), RANGE);
            is("side " + side + ", dowries", x.size(side, 0, 1), RANGE);
        }
        for (int day : new int[] {-1, 401, LEAST, MOST}) {
            is("day " + day, x.size(0, day, 1), RANGE);
        }
    }

    // ---- promises 32 to 34

    private static void caughtBounds() {
        says("32: n lines (1 .. 40), f false ones (0 .. n), c opened (0 .. n), what 0: the upper number, 1: the lower one; RANGE (-2)");
        BothLists x = new BothLists();
        for (int n : new int[] {0, 41, -1, LEAST, MOST}) {
            is("n " + n, x.caught(n, 0, 0, 0), RANGE);
            is("n " + n + ", f and c, too", x.caught(n, n, n, 0), RANGE);
        }
        for (int n : new int[] {1, 7, 40}) {
            for (int bad : new int[] {-1, n + 1, LEAST, MOST}) {
                is("f " + bad + " of " + n, x.caught(n, bad, 0, 0), RANGE);
                is("c " + bad + " of " + n, x.caught(n, 0, bad, 0), RANGE);
                is("f and c " + bad + " of " + n, x.caught(n, bad, bad, 1), RANGE);
            }
            for (int what : new int[] {-1, 2, LEAST, MOST}) {
                is("what " + what, x.caught(n, 0, 0, what), RANGE);
            }
            is("all false, all opened", x.caught(n, n, n, 0), 1);
            is("none false, none opened", x.caught(n, 0, 0, 0), 0);
            is("none false, none opened, lower", x.caught(n, 0, 0, 1), 1);
        }
    }

    private static void caughtLeast() {
        says("IV: CAUGHT: the odds that one false line at least is opened, a fraction told by its least numbers");
        BothLists x = new BothLists();
        is("1 of 4 with 2 opened: a half", 10 * x.caught(4, 1, 2, 0) + x.caught(4, 1, 2, 1), 12);
        is("1 of 40 with 1 opened", 100 * x.caught(40, 1, 1, 0) + x.caught(40, 1, 1, 1), 140);
        is("just as many as are true", 100 * x.caught(10, 3, 7, 0), 100 * (120 - 1));
        is("just as many as are true, lower", x.caught(10, 3, 7, 1), 120);
        is("one more than are true", 10 * x.caught(10, 3, 8, 0) + x.caught(10, 3, 8, 1), 11);
        is("none false: 0 over 1", 10 * x.caught(40, 0, 17, 0) + x.caught(40, 0, 17, 1), 1);
        is("none opened: 0 over 1", 10 * x.caught(40, 17, 0, 0) + x.caught(40, 17, 0, 1), 1);
        is("the largest", x.caught(40, 20, 20, 1), 137846528820L);
        is("the largest, upper", x.caught(40, 20, 20, 0), 137846528819L);
    }

    private static BigInteger choose(int n, int c) {
        BigInteger ways = BigInteger.ONE;
        for (int i = 0; i < c; i++) {
            ways = ways.multiply(BigInteger.valueOf(n - i)).divide(BigInteger.valueOf(i + 1));
        }
        return ways;
    }

    private static void caughtOfAll() {
        says("32: CAUGHT with n lines (1 .. 40), f false ones (0 .. n), c opened (0 .. n)");
        for (int n : new int[] {1, 2, 3, 20, 39, 40}) {
            for (int f = 0; f <= n; f++) {
                BothLists x = new BothLists();
                for (int c = 0; c <= n; c++) {
                    BigInteger all = choose(n, c);
                    BigInteger hit = all.subtract(c > n - f ? BigInteger.ZERO : choose(n - f, c));
                    BigInteger common = hit.gcd(all);
                    String told = n + " " + f + " " + c;
                    is("upper " + told, x.caught(n, f, c, 0), hit.divide(common).longValueExact());
                    is("lower " + told, x.caught(n, f, c, 1), all.divide(common).longValueExact());
                    is("opened just so " + told, lowestFor(x, n, f, hit.divide(common), all.divide(common)) <= c ? 1 : 0, 1);
                }
            }
        }
    }

    /** OPENED for odds whose lower number is within its bound; else 0, which says nothing. */
    private static int lowestFor(BothLists x, int n, int f, BigInteger upper, BigInteger lower) {
        return lower.compareTo(BigInteger.valueOf(10000)) > 0 ? 0 : x.opened(n, f, upper.intValueExact(), lower.intValueExact());
    }

    private static void openedBounds() {
        says("33: OPENED for a over b (0 .. b, b 1 .. 10000): c; RANGE");
        BothLists x = new BothLists();
        is("b 1", x.opened(10, 10, 1, 1), 1);
        is("b 10000", x.opened(10, 10, 10000, 10000), 1);
        is("a 0", x.opened(10, 10, 0, 10000), 0);
        for (int b : new int[] {0, 10001, -1, LEAST, MOST}) {
            is("b " + b, x.opened(10, 1, 0, b), RANGE);
            is("a and b " + b, x.opened(10, 1, b, b), RANGE);
        }
        for (int a : new int[] {-1, 3, LEAST, MOST}) {
            is("a " + a + " over 2", x.opened(10, 1, a, 2), RANGE);
        }
        for (int n : new int[] {0, 41, -1, LEAST, MOST}) {
            is("n " + n, x.opened(n, 0, 1, 2), RANGE);
        }
        for (int f : new int[] {-1, 11, LEAST, MOST}) {
            is("f " + f + " of 10", x.opened(10, f, 1, 2), RANGE);
        }
        is("n 1", x.opened(1, 1, 1, 1), 1);
        is("n 40", x.opened(40, 1, 1, 1), 40);
    }

    private static void openedLeast() {
        says("IV: OPENED: the least c with which CAUGHT is a over b or more");
        BothLists x = new BothLists();
        // One of ten: c over 10.
        for (int c = 0; c <= 10; c++) {
            is("just " + c, x.opened(10, 1, c, 10), c);
            is("just " + c + " of 10000", x.opened(10, 1, 1000 * c, 10000), c);
            if (c < 10) {
                is("a little more than " + c, x.opened(10, 1, 1000 * c + 1, 10000), c + 1);
            }
        }
        is("0 needs none", x.opened(40, 40, 0, 1), 0);
        is("all false", x.opened(40, 40, 1, 1), 1);
        is("the least of many: 1 less 167960 over 2311801440", x.opened(40, 20, 9999, 10000), 11);
        // 20 of 40: 1 less 1 over 137846528820 is below 1, so it takes 21.
        is("surely", x.opened(40, 20, 1, 1), 21);
    }

    private static void openedNone() {
        says("33: NONE: with none");
        BothLists x = new BothLists();
        is("none false, a little", x.opened(40, 0, 1, 10000), NONE);
        is("none false, all", x.opened(1, 0, 1, 1), NONE);
        is("none false, nothing asked", x.opened(1, 0, 0, 1), 0);
        is("RANGE ahead of it", x.opened(40, 0, 2, 1), RANGE);
    }

    private static void count() {
        says("34: What 0: WORDS of LIST 0, 1: of LIST 1, 2: THE KNOWN, 3: LINES, 4: clauses of SPELLING, 5: P, 6: changes of DAYS, 7: bytes of THE TAPE. NONE for others");
        BothLists x = new BothLists();
        for (int what : new int[] {-1, 8, 9, 100, LEAST, MOST}) {
            is("what " + what, x.count(what), NONE);
        }
        int[] least = {0, 0, 0, 0, 0, 101, 0, 0};
        for (int what = 0; what < 8; what++) {
            is("at first " + what, x.count(what), least[what]);
        }
        x.prime(HIGHEST);
        spelling(x, "double; first 10; drop a; drop b; drop c; drop d; drop e; drop f; drop g;");
        list(x, 0, "h 1; i 1;");
        list(x, 1, "j 1;");
        known(x, "h; i; j; k; l; m; n; o;");
        way(x, "one makes a;" + "one turns a;".repeat(29));
        fortyChanges(x, 0);
        for (int i = 0; i < 61; i++) {
            x.feed(0, 0, 0, 0, 0);
        }
        int[] most = {2, 1, 8, 30, 9, HIGHEST, 40, 1200};
        for (int what = 0; what < 8; what++) {
            is("then " + what, x.count(what), most[what]);
        }
        x.end(7);
        is("bytes then", x.count(7), 7);
    }
}
