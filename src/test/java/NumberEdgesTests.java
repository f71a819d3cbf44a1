/** Terms II and promises 10 to 16: every sentence that names an edge, one method each, with its words. */
public final class NumberEdgesTests extends Common {
    private static final int POWER = 0;
    private static final int TIMES = 1;
    private static final int PLUS = 2;
    private static final int HIGHEST = 2147483647;

    public static void main(String[] args) {
        begin("NumberEdgesTests");
        primeBounds();
        primeNone();
        primeRefused();
        primeTaken();
        numberAtFirst();
        numberModulo();
        numberNone();
        turningBounds();
        turningFactors();
        turningOfHighest();
        turningNone();
        turningRefused();
        turningAtFirst();
        turnedBounds();
        plusAbove();
        oneToOne();
        fixed();
        fixedOfSmallPrimes();
        unlike();
        unlikeState();
        seedBounds();
        seedRefused();
        seedTaken();
        drawsModulo();
        finish();
    }

    // ---- promises 10 and 11

    private static void primeBounds() {
        says("II: A PRIME P, 5 .. 2147483647 (101 at first)");
        BothLists x = new BothLists();
        is("at first", x.count(5), 101);
        is("the least", x.prime(5), 1);
        is("it is", x.count(5), 5);
        is("the highest", x.prime(HIGHEST), 1);
        is("it is", x.count(5), HIGHEST);
        for (int p : new int[] {2, 3, 1, 0, -2, -3, -5, -101, LEAST, LEAST + 1}) {
            is("below " + p, x.prime(p), RANGE);
        }
        is("it stays", x.count(5), HIGHEST);
    }

    private static void primeNone() {
        says("10: RANGE: it is no prime");
        BothLists x = new BothLists();
        int[] none = {4, 6, 8, 9, 10, 12, 14, 15, 16, 21, 25, 27, 49, 121, 341, 561, 1105, 1729, 10201, 1 << 30, 46340 * 46340,
            46337 * 46337, 46327 * 46337, 46309 * 46327, HIGHEST - 1, HIGHEST - 2, 715827882 * 3, 3 * 715827881};
        for (int p : none) {
            is("prime " + p, x.prime(p), RANGE);
            is("P with " + p, x.count(5), 101);
        }
        for (int p = 5; p < 200; p++) {
            boolean isPrime = true;
            for (int d = 2; d < p; d++) {
                isPrime &= p % d != 0;
            }
            is("each " + p, x.prime(p), isPrime ? 1 : RANGE);
        }
        x = new BothLists();
        for (int p : new int[] {5, 7, 11, 13, 46337, 46349, 65537, 2147483549, 2147483563, 2147483579, 2147483587, 2147483629}) {
            is("prime " + p, x.prime(p), 1);
            is("P is " + p, x.count(5), p);
        }
    }

    private static BothLists turnedAndRun() {
        BothLists x = ready(11, "a 1;", "a 1;", "one makes a; one turns a; one sends a;");
        x.turning(0, PLUS, 3);
        x.turning(1, TIMES, 2);
        x.seed(0, 7);
        x.run();
        return x;
    }

    private static void primeRefused() {
        says("10: RANGE: it is no prime, or out of its bounds");
        BothLists x = turnedAndRun();
        for (int p : new int[] {12, 3, 0, -11, HIGHEST - 1}) {
            is("refused", x.prime(p), RANGE);
            is("P", x.count(5), 11);
            is("turning of one", x.turned(0, 1, false), 4);
            is("turning of two", x.turned(1, 1, false), 2);
            sawIs("what was run", x, 1, 1, 2);
        }
    }

    private static void primeTaken() {
        says("10: Both TURNINGS are POWER with 1 then, and what was RUN is gone");
        for (int p : new int[] {11, 13, HIGHEST}) {
            BothLists x = turnedAndRun();
            is("taken", x.prime(p), 1);
            is("one", x.turned(0, 1, false) + x.turned(0, p - 1, true), p);
            is("all of one are fixed", x.fixed(0), p - 1);
            is("all of two are fixed", x.fixed(1), p - 1);
            is("gone", x.out(0, 0), STATE);
            is("gone from sight", x.saw(1, 0), NOT_SEEN);
            is("gone from cost", x.cost(0), STATE);
            is("the seed stays", x.seed(0, 1), 7);
            is("the list stays", x.count(0), 1);
            is("the way stays", x.run(), 3);
        }
    }

    private static void numberAtFirst() {
        says("II: v is 7 modulo (P - 1) at first");
        int[][] due = {{5, 4}, {7, 2}, {11, 8}, {101, 8}, {HIGHEST, 8}};
        for (int[] one : due) {
            BothLists x = new BothLists();
            x.prime(one[0]);
            spelling(x, "drop a;");
            list(x, 0, "a 1;");
            known(x, "aaa;");
            is("of no letter by " + one[0], x.number(0, 0), one[1]);
            is("of a known without a letter by " + one[0], x.number(2, 0), one[1]);
        }
    }

    private static void numberModulo() {
        says("II: for each letter (a is 1) v becomes (31 times v and the letter) modulo (P - 1); it is 1 + v");
        BothLists x = new BothLists();
        x.prime(11);
        known(x, "a; b; c; z; az; zzzzzzzzzz;");
        is("a is 1", x.number(2, 0), 9);
        is("the highest is P - 1", x.number(2, 1), 10);
        is("the least is 1", x.number(2, 2), 1);
        is("z is 26", x.number(2, 3), 1 + (31 * 7 + 26) % 10);
        is("the order counts", x.number(2, 4), 1 + (31 * 8 + 26) % 10);
        x.prime(HIGHEST);
        list(x, 0, "zzzzzzzzzz 1; aaaaaaaaaa 1; zzzzzz 1; abcdefghij 1;");
        String[] words = {"zzzzzzzzzz", "aaaaaaaaaa", "zzzzzz", "abcdefghij"};
        for (int i = 0; i < words.length; i++) {
            java.math.BigInteger v = java.math.BigInteger.valueOf(7);
            for (char letter : words[i].toCharArray()) {
                v = v.multiply(java.math.BigInteger.valueOf(31)).add(java.math.BigInteger.valueOf(letter - 96));
            }
            is(words[i], x.number(0, i), 1 + v.mod(java.math.BigInteger.valueOf(HIGHEST - 1)).longValue());
        }
    }

    private static void numberNone() {
        says("11: RANGE: none such");
        BothLists x = new BothLists();
        for (int side = -2; side <= 4; side++) {
            is("nobody on " + side, x.number(side, 0), RANGE);
        }
        list(x, 0, "a 1;");
        list(x, 1, "a 1; b 1;");
        known(x, "a; b; c;");
        for (int side = 0; side <= 2; side++) {
            is("the last of " + side, x.number(side, side), 19 + side);
            for (int i : new int[] {side + 1, -1, 40, LEAST, MOST}) {
                is("no " + i + " of " + side, x.number(side, i), RANGE);
            }
        }
        for (int side : new int[] {-1, 3, LEAST, MOST}) {
            is("side " + side, x.number(side, 0), RANGE);
        }
        comes(x, 0, 0, "c 1");
        is("nobody who came by a day", x.number(0, 1), RANGE);
        goes(x, 1, 0, "a");
        is("those who went are there", x.number(1, 0), 19);
    }

    // ---- promises 12 and 13

    private static void turningBounds() {
        says("II: 0 POWER: k 1 .. P - 2; 1 TIMES: k 1 .. P - 1; 2 PLUS: k 0 .. P - 2");
        for (int p : new int[] {5, 7, 59, 61, 101}) {
            for (int side = 0; side < 2; side++) {
                BothLists x = new BothLists();
                x.prime(p);
                for (int k : new int[] {LEAST, -1, 0, 1, p - 2, p - 1, p, p + 1, MOST}) {
                    is("power " + k + " by " + p, x.turning(side, POWER, k), k == 1 || k == p - 2 ? 1 : RANGE);
                    is("times " + k + " by " + p, x.turning(side, TIMES, k), k >= 1 && k <= p - 1 ? 1 : RANGE);
                    is("plus " + k + " by " + p, x.turning(side, PLUS, k), k >= 0 && k <= p - 2 ? 1 : RANGE);
                }
            }
        }
    }

    private static void turningFactors() {
        says("II: without a factor (above 1) that P - 1 has, too");
        int[][] good = {{5, 1, 3}, {7, 1, 5}, {11, 1, 3, 7, 9}, {13, 1, 5, 7, 11}, {31, 1, 7, 11, 13, 17, 19, 23, 29}};
        for (int[] row : good) {
            BothLists x = new BothLists();
            x.prime(row[0]);
            for (int k = 0; k <= row[0]; k++) {
                boolean isGood = false;
                for (int i = 1; i < row.length; i++) {
                    isGood |= row[i] == k;
                }
                is("power " + k + " by " + row[0], x.turning(0, POWER, k), isGood ? 1 : RANGE);
            }
        }
    }

    private static void turningOfHighest() {
        says("II: A PRIME P, 5 .. 2147483647");
        BothLists x = new BothLists();
        x.prime(HIGHEST);
        is("power 1", x.turning(0, POWER, 1), 1);
        is("power P - 2", x.turning(0, POWER, HIGHEST - 2), 1);
        is("power P - 1", x.turning(0, POWER, HIGHEST - 1), RANGE);
        is("power P", x.turning(0, POWER, HIGHEST), RANGE);
        for (int factor : new int[] {2, 3, 7, 9, 11, 31, 151, 331, 331 * 5, (HIGHEST - 1) / 2}) {
            is("power " + factor, x.turning(0, POWER, factor), RANGE);
        }
        for (int k : new int[] {5, 13, 1000000007}) {
            is("power " + k, x.turning(0, POWER, k), 1);
        }
        is("times P - 1", x.turning(0, TIMES, HIGHEST - 1), 1);
        is("times P", x.turning(0, TIMES, HIGHEST), RANGE);
        is("plus P - 2", x.turning(0, PLUS, HIGHEST - 2), 1);
        is("plus P - 1", x.turning(0, PLUS, HIGHEST - 1), RANGE);
    }

    private static void turningNone() {
        says("12: A SIDE's TURNING: 1; RANGE");
        BothLists x = new BothLists();
        for (int side : NO_SIDES) {
            for (int kind = 0; kind < 3; kind++) {
                is("side " + side + " kind " + kind, x.turning(side, kind, 1), RANGE);
            }
        }
        for (int kind : new int[] {-1, 3, LEAST, MOST}) {
            is("kind " + kind, x.turning(0, kind, 1), RANGE);
        }
        is("still idle", x.fixed(0) + x.fixed(1), 200);
    }

    private static void turningRefused() {
        says("12: RANGE. What was RUN is gone");
        BothLists x = turnedAndRun();
        x.turning(2, POWER, 1);
        x.turning(0, 3, 1);
        x.turning(0, POWER, 2);
        x.turning(0, TIMES, 0);
        x.turning(0, TIMES, 11);
        x.turning(0, PLUS, -1);
        x.turning(0, PLUS, 10);
        sawIs("refused ones leave it", x, 1, 1, 2);
        is("and the turning", x.turned(0, 1, false), 4);
        is("of the other one", x.turned(1, 1, false), 2);
        is("the same again is taken", x.turning(0, PLUS, 3), 1);
        is("and it is gone", x.saw(1, -1), NOT_SEEN);
    }

    private static void turningAtFirst() {
        says("II: POWER with 1 at first (and for both when P is told)");
        BothLists x = new BothLists();
        for (int side = 0; side < 2; side++) {
            for (int y = 1; y <= 100; y++) {
                is("idle", x.turned(side, y, false), y);
            }
        }
    }

    private static void turnedBounds() {
        says("13: A number 1 .. P - 1 turned by a SIDE's TURNING, or turned back; RANGE");
        int[][] kinds = {{POWER, 3}, {TIMES, 2}, {PLUS, 4}};
        for (int p : new int[] {5, 11, 101, HIGHEST}) {
            for (int[] kind : kinds) {
                BothLists x = new BothLists();
                x.prime(p);
                x.turning(0, kind[0], kind[1]);
                for (int i = 0; i < 2; i++) {
                    boolean back = i == 1;
                    is("0", x.turned(0, 0, back), RANGE);
                    is("-1", x.turned(0, -1, back), RANGE);
                    is("least", x.turned(0, LEAST, back), RANGE);
                    is("P", x.turned(0, p, back), RANGE);
                    is("most", x.turned(0, MOST, back), RANGE);
                    is("1", x.turned(0, 1, back) >= 1 ? 1 : 0, 1);
                    is("P - 1", x.turned(0, p - 1, back) >= 1 ? 1 : 0, 1);
                    for (int side : NO_SIDES) {
                        is("side " + side, x.turned(side, 1, back), RANGE);
                    }
                }
            }
        }
    }

    private static void plusAbove() {
        says("II: 2 PLUS: x and k, less P - 1 if that is above it");
        for (int p : new int[] {5, 59, 61, 101, HIGHEST}) {
            BothLists x = new BothLists();
            x.prime(p);
            x.turning(0, PLUS, 2);
            is("just P - 1 stays", x.turned(0, p - 3, false), p - 1);
            is("just P is 1", x.turned(0, p - 2, false), 1);
            is("P and 1 is 2", x.turned(0, p - 1, false), 2);
            is("1 back", x.turned(0, 1, true), p - 2);
            is("2 back", x.turned(0, 2, true), p - 1);
            is("3 back", x.turned(0, 3, true), 1);
            is("P - 1 back", x.turned(0, p - 1, true), p - 3);
            x.turning(0, PLUS, p - 2);
            is("1 and P - 2", x.turned(0, 1, false), p - 1);
            is("P - 1 and P - 2", x.turned(0, p - 1, false), p - 2);
            is("P - 1 back by P - 2", x.turned(0, p - 1, true), 1);
            x.turning(0, PLUS, 0);
            is("P - 1 and 0", x.turned(0, p - 1, false), p - 1);
            is("P - 1 back by 0", x.turned(0, p - 1, true), p - 1);
            is("1 back by 0", x.turned(0, 1, true), 1);
        }
    }

    private static void oneToOne() {
        says("II: It turns numbers 1 .. P - 1 one to one");
        for (int p : new int[] {5, 7, 11, 59, 61}) {
            for (int kind = 0; kind < 3; kind++) {
                for (int k : new int[] {0, 1, 3, 7, p - 2, p - 1}) {
                    BothLists x = new BothLists();
                    x.prime(p);
                    if (x.turning(1, kind, k) == 1) {
                        long seen = 0;
                        for (int y = 1; y < p; y++) {
                            int there = x.turned(1, y, false);
                            is("back " + p + " " + kind + " " + k + " " + y, x.turned(1, there, true), y);
                            seen |= 1L << there;
                        }
                        is("all of them " + p + " " + kind + " " + k, seen, (1L << p - 1) * 2 - 2);
                    }
                }
            }
        }
    }

    // ---- promises 14 and 15

    private static void fixed() {
        says("14: FIXED of a SIDE's TURNING; RANGE");
        BothLists x = new BothLists();
        for (int side : NO_SIDES) {
            is("side " + side, x.fixed(side), RANGE);
        }
        x.prime(HIGHEST);
        is("all", x.fixed(0), HIGHEST - 1);
        x.turning(0, TIMES, 1);
        is("times 1", x.fixed(0), HIGHEST - 1);
        x.turning(0, TIMES, HIGHEST - 1);
        is("times P - 1", x.fixed(0), 0);
        x.turning(0, PLUS, 0);
        is("plus 0", x.fixed(0), HIGHEST - 1);
        x.turning(0, PLUS, HIGHEST - 2);
        is("plus P - 2", x.fixed(0), 0);
        x.turning(0, POWER, HIGHEST - 2);
        is("to the P - 2: 1 and P - 1", x.fixed(0), 2);
        is("of the other one", x.fixed(1), HIGHEST - 1);
    }

    private static void fixedOfSmallPrimes() {
        says("II: FIXED: how many of them turn into themselves");
        for (int p : new int[] {5, 7, 13, 31}) {
            for (int kind = 0; kind < 3; kind++) {
                BothLists x = new BothLists();
                x.prime(p);
                for (int k = 0; k < p; k++) {
                    if (x.turning(0, kind, k) == 1) {
                        int same = 0;
                        for (int y = 1; y < p; y++) {
                            same += x.turned(0, y, false) == y ? 1 : 0;
                        }
                        is("fixed " + p + " " + kind + " " + k, x.fixed(0), same);
                    }
                }
            }
        }
    }

    private static void unlike() {
        says("15: UNLIKE: the number; NONE: there is none");
        BothLists x = new BothLists();
        x.prime(5);
        // x to the 3 turns 2 and 3 into one another; x and 2 turns 1 and 3, 2 and 4 into one another.
        x.turning(0, POWER, 3);
        x.turning(1, PLUS, 2);
        is("1 is: 1, then 3, and 3, then 2", x.unlike(), 1);
        // x and 1: of 1 it is 2, of 2 it is 3: 1, 2 and 2, 3.
        x.turning(1, PLUS, 1);
        is("1 is again", x.unlike(), 1);
        x.turning(1, POWER, 3);
        is("power and power", x.unlike(), NONE);
        x.turning(0, TIMES, 4);
        is("4 to the 3 is 4", x.unlike(), NONE);
        x.turning(0, TIMES, 2);
        is("2 to the 3 is 3", x.unlike(), 1);
        x.turning(1, TIMES, 3);
        is("times and times", x.unlike(), NONE);
        x.turning(1, PLUS, 0);
        is("plus 0", x.unlike(), NONE);
        x.turning(0, PLUS, 3);
        x.turning(1, PLUS, 1);
        is("plus and plus", x.unlike(), NONE);
        // By 7 times 6 is 7 less x: it and half of P - 1 may be done in either order.
        x.prime(7);
        x.turning(0, TIMES, 6);
        x.turning(1, PLUS, 3);
        for (int y = 1; y <= 6; y++) {
            is("alike " + y, x.turned(1, x.turned(0, y, false), false), x.turned(0, x.turned(1, y, false), false));
        }
        is("so there is none", x.unlike(), NONE);
        unlikeBehindOne();
    }

    /** PLUS and the power P - 2, which turns each number into what it is 1 with: the least that differs, wherever it is. */
    private static void unlikeBehindOne() {
        int behind = 0;
        for (int p : new int[] {5, 7, 13}) {
            for (int k = 0; k < p - 1; k++) {
                BothLists x = new BothLists();
                x.prime(p);
                x.turning(0, PLUS, k);
                x.turning(1, POWER, p - 2);
                int least = NONE;
                for (int y = p - 1; y >= 1; y--) {
                    boolean same = x.turned(1, x.turned(0, y, false), false) == x.turned(0, x.turned(1, y, false), false);
                    least = same ? least : y;
                }
                is("unlike " + p + " " + k, x.unlike(), least);
                behind += least > 1 ? 1 : 0;
            }
        }
        is("some begin behind 1", behind > 0 ? 1 : 0, 1);
    }

    private static void unlikeState() {
        says("15: STATE: P is above 100000");
        BothLists x = new BothLists();
        x.prime(99991);
        is("99991, none", x.unlike(), NONE);
        x.turning(0, TIMES, 2);
        x.turning(1, PLUS, 1);
        is("99991, one", x.unlike(), 1);
        x.turning(0, TIMES, 99990);
        x.turning(1, PLUS, 49995);
        is("99991, half of P - 1 may change its side", x.unlike(), NONE);
        for (int p : new int[] {100003, 1000003, HIGHEST}) {
            x.prime(p);
            is("P " + p, x.unlike(), STATE);
            x.turning(0, TIMES, 2);
            x.turning(1, PLUS, 1);
            is("P " + p + ", unlike ones", x.unlike(), STATE);
        }
        x.prime(99991);
        is("below again", x.unlike(), NONE);
    }

    // ---- promise 16

    private static void seedBounds() {
        says("16: A SIDE's seed (0 .. 2147483647; 1 at first): what it was; RANGE");
        for (int side = 0; side < 2; side++) {
            BothLists x = new BothLists();
            is("at first", x.seed(side, 0), 1);
            is("0", x.seed(side, MOST), 0);
            is("2147483647", x.seed(side, 5), MOST);
            is("-1", x.seed(side, -1), RANGE);
            is("least", x.seed(side, LEAST), RANGE);
            is("it stays", x.seed(side, 5), 5);
            is("of the other one", x.seed(1 - side, 1), 1);
        }
    }

    private static void seedRefused() {
        says("16: RANGE");
        BothLists x = turnedAndRun();
        for (int side : NO_SIDES) {
            is("side " + side, x.seed(side, 1), RANGE);
            is("side " + side + ", seed -1", x.seed(side, -1), RANGE);
        }
        is("-1", x.seed(0, -1), RANGE);
        sawIs("what was run stays", x, 1, 1, 2);
    }

    private static void seedTaken() {
        says("16: What was RUN is gone");
        BothLists x = turnedAndRun();
        is("the same again", x.seed(0, 7), 7);
        is("gone", x.saw(1, -1), NOT_SEEN);
        x.run();
        is("of the other one", x.seed(1, 1), 1);
        is("gone again", x.cost(0), STATE);
        x.run();
        is("a prime leaves it", x.prime(13), 1);
        is("seed", x.seed(0, 7), 7);
    }

    private static void drawsModulo() {
        says("II: s becomes (1103515245 times s and 12345) modulo 2147483648; the number is 1 + (s over 256, cut) modulo (P - 1)");
        for (int p : new int[] {5, 101, HIGHEST}) {
            for (int seed : new int[] {0, 1, 2, 255, 256, 1073741824, MOST - 1, MOST}) {
                BothLists x = ready(p, "", "", "two makes a; two pads a 60; two sends a;");
                x.seed(1, seed);
                x.run();
                long s = seed;
                for (int i = 1; i <= 60; i++) {
                    s = (1103515245L * s + 12345L) % 2147483648L;
                    is("draw " + i + " of " + seed + " by " + p, x.saw(0, i), 1 + s / 256 % (p - 1));
                }
            }
        }
    }
}
