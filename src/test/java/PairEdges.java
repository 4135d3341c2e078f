import java.math.BigInteger;

/** The edges of the Description's "3. Pairs" and of the promises 21 to 36. */
final class PairEdges {
    private static final String PAIR = "Throws `IndexOutOfBoundsException` if pair is not 0 to 2";
    private static final String ONE_OR_OTHER = "Throws `IndexOutOfBoundsException` if one or other is not 0 to 2";
    private static final String NOT_THE_SAME = "Returns 1 if it was not the SAME, otherwise 0.";
    /** 2^80 - 256 in factors, the last one but for 38737 = 197 * 197 - 2 * 6 * 6. */
    private static final int[] JUST_BELOW = {256, 27, 5, 7, 13, 17, 19, 37, 73, 109, 241, 433};
    private static final String TWO_TO_79 = "604462909807314587353088";

    private PairEdges() {
    }

    static void all() {
        threePairs();
        bitsOfNumbers();
        longest();
        sameness();
        products();
        powers();
        ranks();
        acts();
        actsOfTwo();
        mirrorsAndQuotients();
        questions();
        comparisons();
    }

    private static void acts() {
        put();
        take();
        least();
        pairCopy();
    }

    private static void actsOfTwo() {
        compose();
        composeTooLong();
        power();
        powerTooLong();
    }

    private static void mirrorsAndQuotients() {
        mirror();
        divideBy();
    }

    private static void questions() {
        pairBase();
        pairText();
        pairNorm();
        pairBits();
        rank();
    }

    private static void comparisons() {
        order();
        isSame();
        extreme();
    }

    /** PAIR 0 with 2^80 - 256 as its LEFT, over the BASE 2; PAIR 1 is 1, 0. */
    private static Rootwalk justBelow() {
        Rootwalk x = Edge.leftOf(2, JUST_BELOW);
        x.put(1, 2, 197, 6);
        x.put(2, 2, 197, -6);
        x.compose(1, 2, 1);
        x.compose(0, 1, 0);
        x.put(1, 2, 1, 0);
        x.put(2, 2, 1, 0);
        return x;
    }

    // ---- 3. Pairs

    private static void threePairs() {
        Edge.sentence(Edge.DESCRIPTION, "There are three PAIRS, 0 to 2. Each has a BASE n, a LEFT x and a RIGHT y, whole numbers (above 0, 0, or below 0);"
            + " at first n = 2, x = 1, y = 0.");
        Rootwalk x = new Rootwalk();
        for (int pair = 0; pair <= 2; pair++) {
            Edge.eq("PAIR " + pair, Edge.pair(x, pair), "2: 1, 0");
        }
        x.put(1, 3, 0, -1);
        Edge.eq("0 and below 0", Edge.pair(x, 1), "3: 0, -1");
        Edge.eq("beside it", Edge.pair(x, 0) + "; " + Edge.pair(x, 2), "2: 1, 0; 2: 1, 0");
    }

    private static void bitsOfNumbers() {
        Edge.sentence(Edge.DESCRIPTION, "The BITS of a whole number v are the least b from 0 on with |v| < 2^b.");
        int[][] due = {{0, 0}, {1, 1}, {2, 2}, {3, 2}, {4, 3}, {7, 3}, {8, 4}, {255, 8}, {256, 9}, {511, 9}, {512, 10}, {1000, 10}};
        for (int[] of : due) {
            Edge.eq("of " + of[0], Edge.pairOf(2, of[0], 0).pairBits(0, true, 0), of[1]);
            Edge.eq("of -" + of[0], Edge.pairOf(2, 0, -of[0]).pairBits(0, false, 0), of[1]);
        }
        for (int many = 9; many <= 79; many++) {
            Edge.eq("of 2^" + many, Edge.twoTo(many).pairBits(0, true, 0), many + 1);
        }
        Edge.eq("of 2^28 - 1", Edge.leftOf(2, 435, 43, 113, 127).pairBits(0, true, 0), 28);
        Edge.eq("of 2^80 - 256", justBelow().pairBits(0, true, 0), 80);
    }

    private static void longest() {
        Edge.sentence(Edge.DESCRIPTION, "No LEFT or RIGHT ever has more than 80 BITS; a call that would make one is not done.");
        Rootwalk x = justBelow();
        Edge.eq("2^80 - 256 is", Edge.pair(x, 0), "2: 1208925819614629174705920, 0");
        x.put(1, 2, 0, -1);
        Edge.isDone("with its opposite as RIGHT", x, 1, y -> y.compose(0, 1, 1), 1);
        Edge.eq("that is", Edge.pair(x, 1), "2: 0, -1208925819614629174705920");
        Rootwalk z = Edge.twoTo(79);
        z.put(1, 2, 2, 0);
        Edge.tellsMinusNine("2^80 as LEFT", z, y -> y.compose(0, 1, 0));
        z.put(1, 2, -2, 0);
        Edge.tellsMinusNine("-2^80 as LEFT", z, y -> y.compose(0, 1, 0));
        z.put(1, 2, 0, 2);
        Edge.tellsMinusNine("2^80 as RIGHT", z, y -> y.compose(0, 1, 0));
        z.put(1, 2, 0, -2);
        Edge.tellsMinusNine("-2^80 as RIGHT", z, y -> y.compose(0, 1, 0));
    }

    private static void sameness() {
        Edge.sentence(Edge.DESCRIPTION, "Two PAIRS are the SAME, if their BASES, their LEFTS and their RIGHTS are.");
        Rootwalk x = new Rootwalk();
        Edge.eq("at first", x.isSame(0, 1), true);
        x.put(0, 3, 5, -7);
        int[][] others = {{2, 5, -7}, {3, 6, -7}, {3, 5, -8}, {3, -5, -7}, {3, 5, 7}, {3, -7, 5}, {3, 0, -7}, {3, 5, 0}};
        for (int[] other : others) {
            x.put(1, other[0], other[1], other[2]);
            Edge.eq("3: 5, -7 and " + Edge.pair(x, 1), x.isSame(0, 1), false);
        }
        x.put(1, 3, 5, -7);
        Edge.eq("all three", x.isSame(0, 1), true);
    }

    private static void products() {
        Edge.sentence(Edge.DESCRIPTION, "BASE n, LEFT x * u + n * y * v, RIGHT x * v + y * u.");
        Edge.eq("by 1, 0", product(99, 1000, -1000, 1, 0), "99: 1000, -1000");
        Edge.eq("by 0, 0", product(99, 1000, -1000, 0, 0), "99: 0, 0");
        Edge.eq("by -1, 0", product(99, 1000, -1000, -1, 0), "99: -1000, 1000");
        Edge.eq("by 0, 1", product(99, 1000, -1000, 0, 1), "99: -99000, 1000");
        Edge.eq("with itself mirrored", product(2, 3, 2, 3, -2), "2: 1, 0");
        Edge.eq("to 0 on the LEFT alone", product(2, 2, 1, -1, 1), "2: 0, 1");
        Edge.eq("of the greatest ones", product(99, 1000, 1000, 1000, 1000), "99: 100000000, 2000000");
        Edge.eq("of the least ones", product(99, -1000, -1000, 1000, 1000), "99: -100000000, -2000000");
    }

    private static String product(int base, int left, int right, int otherLeft, int otherRight) {
        Rootwalk x = Edge.pairOf(base, left, right);
        x.put(1, base, otherLeft, otherRight);
        x.compose(0, 1, 2);
        return Edge.pair(x, 2);
    }

    private static void powers() {
        Edge.sentence(Edge.DESCRIPTION, "e = 0: its BASE, LEFT 1, RIGHT 0; for e above 0 the PRODUCT of the POWER e - 1 and the PAIR.");
        Edge.eq("POWER 0", powered(99, -1000, 1000, 0), "99: 1, 0");
        Edge.eq("POWER 0 of 0, 0", powered(99, 0, 0, 0), "99: 1, 0");
        Edge.eq("POWER 1", powered(99, -1000, 1000, 1), "99: -1000, 1000");
        Edge.eq("POWER 1 of 0, 0", powered(99, 0, 0, 1), "99: 0, 0");
        Edge.eq("POWER 2", powered(3, 2, -1, 2), "3: 7, -4");
        Edge.eq("POWER 5", powered(3, 2, -1, 5), "3: 362, -209");
        Edge.eq("POWER 5 of 0, 0", powered(99, 0, 0, 5), "99: 0, 0");
        Edge.eq("POWER 5 of 0, -1", powered(99, 0, -1, 5), "99: 0, -9801");
    }

    private static String powered(int base, int left, int right, int exponent) {
        Rootwalk x = Edge.pairOf(base, left, right);
        x.power(0, exponent);
        return Edge.pair(x, 0);
    }

    private static void ranks() {
        Edge.sentence(Edge.DESCRIPTION, "RANK of a PAIR with the NORM 1: the j from 0 on for which |x| and |y| are LEFT and RIGHT"
            + " of the POWER j of the LEAST SOLUTION of its BASE. (There is always just one; it is at most 42.)");
        int greatest = 0;
        for (int base = 2; base <= 99; base++) {
            if (!Edge.isSquare(base)) {
                greatest = Math.max(greatest, greatestRank(base));
            }
        }
        Edge.eq("the greatest one", greatest, 42);
    }

    /** Goes through all the POWERS of the LEAST SOLUTION that have at most 80 BITS, and tells the last one. */
    private static int greatestRank(int base) {
        Rootwalk x = Edge.pairOf(base, 1, 0);
        x.least(1, base);
        int rank = 0;
        Edge.eq("of 1, 0 over " + base, x.rank(0), rank);
        // a bound, so that an object that never tells -9 is a wrong answer and no run without an end
        while (rank < 50 && x.compose(0, 1, 0) != -9) {
            rank++;
            Edge.eq("of the POWER " + rank + " over " + base, x.rank(0), rank);
            x.mirror(0, rank % 2 == 0);
            Edge.eq("of that one mirrored", x.rank(0), rank);
            x.mirror(0, rank % 2 == 0);
        }
        return rank;
    }

    // ---- the acts

    private static void put() {
        String range = "Throws `IllegalArgumentException` if base is not a BASE, or left or right is not -1000 to 1000";
        Edge.index(21, PAIR, (x, pair) -> x.put(pair, 61, 5, 6));
        Edge.base(21, range, (x, base) -> x.put(0, base, 5, 6));
        Edge.range(21, range, -1000, 1000, (x, left) -> x.put(0, 61, left, 0));
        Edge.range(21, range, -1000, 1000, (x, right) -> x.put(0, 61, 0, right));

        Edge.sentence(21, NOT_THE_SAME);
        Rootwalk x = new Rootwalk();
        Edge.isDone("what it was at first", x, 1, y -> y.put(0, 2, 1, 0), 0);
        Edge.isDone("the greatest ones", x, 1, y -> y.put(0, 99, 1000, 1000), 1);
        Edge.isDone("those again", x, 1, y -> y.put(0, 99, 1000, 1000), 0);
        Edge.isDone("another LEFT alone", x, 1, y -> y.put(0, 99, -1000, 1000), 1);
        Edge.isDone("another RIGHT alone", x, 1, y -> y.put(0, 99, -1000, -1000), 1);
        Edge.isDone("another BASE alone", x, 1, y -> y.put(0, 98, -1000, -1000), 1);
        Edge.eq("it is", Edge.pair(x, 0), "98: -1000, -1000");
        Edge.isDone("0 and 0", x, 1, y -> y.put(0, 98, 0, 0), 1);
        Edge.isDone("0 and 0 again", x, 1, y -> y.put(0, 98, 0, 0), 0);
    }

    private static void take() {
        String throwsIndex = "Throws `IndexOutOfBoundsException` if walk or pair is not 0 to 2";
        Edge.index(22, throwsIndex, (x, walk) -> x.take(walk, 0));
        Edge.index(22, throwsIndex, (x, pair) -> x.take(1, pair));

        Edge.sentence(22, "Returns 1 if it was not the SAME, otherwise 0; -9 if TOP or BOTTOM has more than 80 BITS.");
        Rootwalk x = Edge.walkAt(61, 0);
        Edge.isDone("at STEP 0", x, 1, y -> y.take(0, 0), 1);
        Edge.eq("it is", Edge.pair(x, 0), "61: 7, 1");
        Edge.isDone("once more", x, 1, y -> y.take(0, 0), 0);
        x.put(0, 60, 7, 1);
        Edge.isDone("another BASE alone", x, 1, y -> y.take(0, 0), 1);
        x.put(0, 61, 7, 0);
        Edge.isDone("another RIGHT alone", x, 1, y -> y.take(0, 0), 1);
        for (int[] at : new int[][] {{26, 23}, {50, 20}, {65, 19}, {83, 21}}) {
            Rootwalk just = Edge.walkAt(at[0], at[1]);
            Edge.isDone("80 BITS of TOP, " + Edge.walk(just, 0), just, 1, y -> y.take(0, 2), 1);
            Edge.eq("they are", just.pairText(2, true) + " " + just.pairText(2, false), just.walkText(0, 0, 10) + " " + just.walkText(0, 1, 10));
        }
        for (int[] at : new int[][] {{66, 22}, {84, 23}, {82, 24}}) {
            Rootwalk over = Edge.walkAt(at[0], at[1]);
            Edge.tellsMinusNine("more BITS of TOP, " + Edge.walk(over, 0), over, y -> y.take(0, 2));
        }
        Edge.eq("81 BITS of TOP alone", Edge.walkAt(66, 22).walkBits(0, true, 0) + " " + Edge.walkAt(66, 22).walkBits(0, false, 0), "81 78");
    }

    private static void least() {
        Edge.index(23, PAIR, (x, pair) -> x.least(pair, 2));
        Edge.base(23, "Throws `IllegalArgumentException` if base is not a BASE", (x, base) -> x.least(0, base));

        Edge.sentence(23, NOT_THE_SAME);
        Rootwalk x = Edge.pairOf(3, 3, 2);
        Edge.isDone("another BASE alone", x, 1, y -> y.least(0, 2), 1);
        Edge.isDone("the SAME", x, 1, y -> y.least(0, 2), 0);
        x.put(0, 2, -3, 2);
        Edge.isDone("another LEFT alone", x, 1, y -> y.least(0, 2), 1);
        x.put(0, 2, 3, -2);
        Edge.isDone("another RIGHT alone", x, 1, y -> y.least(0, 2), 1);
        Edge.isDone("the greatest BASE", x, 1, y -> y.least(1, 99), 1);
        Edge.isDone("the longest one", x, 1, y -> y.least(2, 61), 1);
        Edge.eq("they are", Edge.pair(x, 1) + "; " + Edge.pair(x, 2), "99: 10, 1; 61: 1766319049, 226153980");
    }

    private static void pairCopy() {
        String throwsIndex = "Throws `IndexOutOfBoundsException` if pair or into is not 0 to 2";
        Edge.index(28, throwsIndex, (x, pair) -> x.pairCopy(pair, 0));
        Edge.index(28, throwsIndex, (x, into) -> x.pairCopy(0, into));

        Edge.sentence(28, NOT_THE_SAME);
        Rootwalk x = justBelow();
        Edge.isDone("on itself", x, 1, y -> y.pairCopy(0, 0), 0);
        Edge.isDone("80 BITS", x, 1, y -> y.pairCopy(0, 2), 1);
        Edge.isDone("80 BITS again", x, 1, y -> y.pairCopy(0, 2), 0);
        x.put(1, 3, 1, 0);
        x.put(2, 2, 1, 0);
        Edge.isDone("another BASE alone", x, 1, y -> y.pairCopy(1, 2), 1);
        Edge.eq("taken", Edge.pair(x, 2), "3: 1, 0");
        x.put(2, 3, -1, 0);
        Edge.isDone("another LEFT alone", x, 1, y -> y.pairCopy(1, 2), 1);
        x.put(2, 3, 1, 1);
        Edge.isDone("another RIGHT alone", x, 1, y -> y.pairCopy(1, 2), 1);
        x.put(2, 3, 5, 5);
        Edge.eq("from which it was taken", Edge.pair(x, 1), "3: 1, 0");
    }

    private static void compose() {
        String throwsIndex = "Throws `IndexOutOfBoundsException` if one, other or into is not 0 to 2";
        Edge.index(24, throwsIndex, (x, one) -> x.compose(one, 0, 1));
        Edge.index(24, throwsIndex, (x, other) -> x.compose(0, other, 1));
        Edge.index(24, throwsIndex, (x, into) -> x.compose(0, 1, into));

        Edge.sentence(24, "A PAIR becomes the PRODUCT of two (it may be one of them, and they may be one).");
        Edge.eq("into the first one", composed(0, 1, 0), "2: 17, 13 | 2: -1, 5 | 7: 9, 9");
        Edge.eq("into the second one", composed(0, 1, 1), "2: 3, 2 | 2: 17, 13 | 7: 9, 9");
        Edge.eq("into another one, of another BASE", composed(0, 1, 2), "2: 3, 2 | 2: -1, 5 | 2: 17, 13");
        Edge.eq("of one, into another", composed(0, 0, 1), "2: 3, 2 | 2: 17, 12 | 7: 9, 9");
        Edge.eq("of one, into itself", composed(2, 2, 2), "2: 3, 2 | 2: -1, 5 | 7: 648, 162");

        Edge.sentence(24, "Returns 1 if that was not the SAME, otherwise 0; -9 if the two have unlike BASES, or LEFT or RIGHT of the PRODUCT"
            + " has more than 80 BITS.");
        Rootwalk x = Edge.pairOf(2, 3, 2);
        x.put(1, 2, 1, 0);
        Edge.isDone("by 1, 0 into itself", x, 1, y -> y.compose(0, 1, 0), 0);
        Edge.isDone("into another one", x, 1, y -> y.compose(0, 1, 2), 1);
        Edge.isDone("once more", x, 1, y -> y.compose(1, 0, 2), 0);
        x.put(2, 3, 3, 2);
        Edge.isDone("another BASE alone", x, 1, y -> y.compose(0, 1, 2), 1);
        x.put(1, 3, 1, 0);
        Edge.tellsMinusNine("unlike BASES", x, y -> y.compose(0, 1, 2));
        x.put(1, 3, 0, 0);
        Edge.tellsMinusNine("unlike BASES, by 0, 0", x, y -> y.compose(1, 0, 0));
        x.put(0, 2, 0, 0);
        x.put(1, 99, 0, 0);
        Edge.tellsMinusNine("unlike BASES alone", x, y -> y.compose(0, 1, 1));
    }

    private static String composed(int one, int other, int into) {
        Rootwalk x = Edge.pairOf(2, 3, 2);
        x.put(1, 2, -1, 5);
        x.put(2, 7, 9, 9);
        x.compose(one, other, into);
        return Edge.pair(x, 0) + " | " + Edge.pair(x, 1) + " | " + Edge.pair(x, 2);
    }

    private static void composeTooLong() {
        Edge.sentence(24, "or LEFT or RIGHT of the PRODUCT has more than 80 BITS.");
        int[][] tooLong = {{2, 0}, {-2, 0}, {0, 2}, {0, -2}, {1, 2}, {2, 1}, {1000, 1000}};
        for (int[] by : tooLong) {
            Rootwalk x = Edge.twoTo(79);
            x.put(1, 2, by[0], by[1]);
            Edge.tellsMinusNine("2^79 by " + Edge.pair(x, 1), x, y -> y.compose(0, 1, 2));
            Edge.tellsMinusNine("the other way round", x, y -> y.compose(1, 0, 0));
        }
        int[][] fitting = {{1, 0}, {-1, 0}, {0, 1}, {0, -1}, {1, 1}, {-1, 1}};
        for (int[] by : fitting) {
            Rootwalk x = Edge.twoTo(79);
            x.put(1, 2, by[0], by[1]);
            Edge.isDone("2^79 by " + Edge.pair(x, 1), x, 1, y -> y.compose(0, 1, 2), 1);
        }
        Rootwalk x = justBelow();
        x.put(1, 2, 1, 1);
        Edge.isDone("2^80 - 256 on both sides", x, 1, y -> y.compose(0, 1, 2), 1);
        x.put(1, 2, 2, 1);
        Edge.tellsMinusNine("twice that", x, y -> y.compose(0, 1, 2));
        Rootwalk long42 = new Rootwalk();
        long42.open(0, 97);
        long42.least(0, 97);
        long42.power(0, 3);
        long42.pairCopy(0, 1);
        long42.mirror(1, false);
        Edge.eq("80 BITS", long42.pairBits(0, true, 0), 80);
        Edge.isDone("longer only on the way", long42, 1, y -> y.compose(0, 1, 2), 1);
        Edge.eq("it is", Edge.pair(long42, 2), "97: 1, 0");
    }

    private static void power() {
        Edge.index(25, PAIR, (x, pair) -> x.power(pair, 1));
        Edge.range(25, "Throws `IllegalArgumentException` if exponent is not 0 to 5", 0, 5, (x, exponent) -> x.power(1, exponent));

        Edge.sentence(25, "A PAIR becomes a POWER of itself.");
        Rootwalk x = Edge.pairOf(3, 2, -1);
        Edge.isDone("POWER 1", x, 1, y -> y.power(0, 1), 0);
        Edge.isDone("POWER 5", x, 1, y -> y.power(0, 5), 1);
        Edge.eq("it is", Edge.pair(x, 0), "3: 362, -209");
        Edge.isDone("POWER 0", x, 1, y -> y.power(0, 0), 1);
        Edge.isDone("POWER 0 again", x, 1, y -> y.power(0, 0), 0);
        Edge.eq("it is then", Edge.pair(x, 0), "3: 1, 0");
        Edge.isDone("POWER 5 of that", x, 1, y -> y.power(0, 5), 0);
        Edge.isDone("POWER 0 of 0, 0", Edge.pairOf(3, 0, 0), 1, y -> y.power(0, 0), 1);
        Edge.isDone("POWER 5 of 0, 0", Edge.pairOf(3, 0, 0), 1, y -> y.power(0, 5), 0);
        Edge.isDone("POWER 2 of -1, 0", Edge.pairOf(3, -1, 0), 1, y -> y.power(0, 2), 1);
        Edge.isDone("POWER 3 of -1, 0", Edge.pairOf(3, -1, 0), 1, y -> y.power(0, 3), 0);
    }

    private static void powerTooLong() {
        Edge.sentence(25, "Returns 1 if it was not the SAME, otherwise 0; -9 if LEFT or RIGHT of that POWER has more than 80 BITS"
            + " (those of lesser POWERS may have).");
        Edge.tellsMinusNine("65536^5 is 2^80", Edge.twoTo(16), x -> x.power(0, 5));
        Rootwalk just = Edge.leftOf(2, 255, 257);
        Edge.isDone("65535^5", just, 1, x -> x.power(0, 5), 1);
        Edge.eq("it is", Edge.pair(just, 0), "2: 1208833588708967444709375, 0");
        int[][] powersOfTwo = {{39, 2, 1}, {40, 2, -9}, {26, 3, 1}, {27, 3, -9}, {19, 4, 1}, {20, 4, -9}, {15, 5, 1}, {79, 1, 0}, {79, 0, 1}, {79, 2, -9}, {79, 5, -9}};
        for (int[] due : powersOfTwo) {
            Edge.eq("POWER " + due[1] + " of 2^" + due[0], Edge.twoTo(due[0]).power(0, due[1]), due[2]);
        }
        Rootwalk onRight = Edge.twoTo(26);
        onRight.put(1, 2, 0, 1);
        onRight.compose(0, 1, 0);
        Edge.isDone("RIGHT alone, 2^79", onRight, 1, x -> x.power(0, 3), 1);
        Edge.eq("it is", Edge.pair(onRight, 0), "2: 0, " + TWO_TO_79);
        Rootwalk overRight = Edge.twoTo(27);
        overRight.put(1, 2, 0, -1);
        overRight.compose(0, 1, 0);
        Edge.tellsMinusNine("RIGHT alone, -2^82", overRight, x -> x.power(0, 3));
        Rootwalk overLeft = Edge.twoTo(40);
        overLeft.put(1, 2, 0, 1);
        overLeft.compose(0, 1, 0);
        Edge.tellsMinusNine("LEFT alone, 2^81", overLeft, x -> x.power(0, 2));
        Rootwalk both = justBelow();
        both.put(1, 2, -1, 1);
        both.compose(0, 1, 0);
        for (int exponent = 2; exponent <= 5; exponent++) {
            int of = exponent;
            Edge.tellsMinusNine("both, POWER " + of, both, x -> x.power(0, of));
        }
    }

    private static void mirror() {
        Edge.index(26, PAIR, (x, pair) -> x.mirror(pair, true));

        Edge.sentence(26, NOT_THE_SAME);
        int[][] due = {
            {3, 2, 0, 1, 3, -2}, {3, 2, 1, 1, -3, -2}, {3, 0, 0, 0, 3, 0}, {3, 0, 1, 1, -3, 0},
            {0, -2, 0, 1, 0, 2}, {0, -2, 1, 1, 0, 2}, {0, 0, 0, 0, 0, 0}, {0, 0, 1, 0, 0, 0}
        };
        for (int[] row : due) {
            Rootwalk x = Edge.pairOf(7, row[0], row[1]);
            Edge.isDone(row[0] + ", " + row[1], x, 1, y -> y.mirror(0, row[2] == 1), row[3]);
            Edge.eq("it is", Edge.pair(x, 0), "7: " + row[4] + ", " + row[5]);
        }
        Rootwalk x = justBelow();
        Edge.isDone("80 BITS", x, 1, y -> y.mirror(0, true), 1);
        Edge.eq("it is", Edge.pair(x, 0), "2: -1208925819614629174705920, 0");
    }

    private static void divideBy() {
        Edge.index(27, PAIR, (x, pair) -> x.divideBy(pair, 1));
        Edge.range(27, "Throws `IllegalArgumentException` if by is not -99 to 99", -99, 99, (x, by) -> x.divideBy(1, by));

        Edge.sentence(27, "Returns 1 if it was not the SAME, otherwise 0; -9 if by is 0, or LEFT or RIGHT (or both) is no multiple of by.");
        int[][] done = {
            {99, -990, 99, 1, 1, -10}, {99, -990, -99, 1, -1, 10}, {8, 4, 1, 0, 8, 4}, {8, 4, -1, 1, -8, -4},
            {0, 4, 2, 1, 0, 2}, {4, 0, -2, 1, -2, 0}, {0, 0, 99, 0, 0, 0}, {0, 0, -1, 0, 0, 0}, {-9, -9, -9, 1, 1, 1}
        };
        for (int[] row : done) {
            Rootwalk x = Edge.pairOf(61, row[0], row[1]);
            Edge.isDone(row[0] + ", " + row[1] + " by " + row[2], x, 1, y -> y.divideBy(0, row[2]), row[3]);
            Edge.eq("it is", Edge.pair(x, 0), "61: " + row[4] + ", " + row[5]);
        }
        int[][] refused = {
            {8, 4, 0}, {0, 0, 0}, {8, 4, 8}, {4, 8, 8}, {8, 4, 3}, {-8, 4, 8}, {8, -4, -8}, {1, 0, 2}, {0, 1, -2}, {98, 98, 99}, {-7, 0, 2}, {100, 99, 99}
        };
        for (int[] row : refused) {
            Rootwalk x = Edge.pairOf(61, row[0], row[1]);
            Edge.tellsMinusNine(row[0] + ", " + row[1] + " by " + row[2], x, y -> y.divideBy(0, row[2]));
        }
        Rootwalk x = justBelow();
        Edge.isDone("80 BITS by -73", x, 1, y -> y.divideBy(0, -73), 1);
        Edge.eq("it is", Edge.pair(x, 0), "2: " + new BigInteger("1208925819614629174705920").divide(BigInteger.valueOf(-73)) + ", 0");
        Edge.tellsMinusNine("by -73 again", x, y -> y.divideBy(0, -73));
    }

    // ---- the questions

    private static void pairBase() {
        Edge.index(29, PAIR, (x, pair) -> x.pairBase(pair));
        Edge.sentence(29, "Returns its BASE.");
        Edge.eq("the least one", new Rootwalk().pairBase(2), 2);
        Edge.eq("the greatest one", Edge.pairOf(99, 0, 0).pairBase(0), 99);
    }

    private static void pairText() {
        Edge.index(30, PAIR, (x, pair) -> x.pairText(pair, true));
        Edge.index(30, PAIR, (x, pair) -> x.pairText(pair, false));
        Edge.sentence(30, "whether its LEFT; otherwise its RIGHT");
        Edge.eq("0 and below 0", Edge.pair(Edge.pairOf(2, 0, -1000), 0), "2: 0, -1000");
        Rootwalk x = Edge.twoTo(79);
        x.put(1, 2, -1, 1);
        x.compose(0, 1, 0);
        Edge.eq("80 BITS", Edge.pair(x, 0), "2: -" + TWO_TO_79 + ", " + TWO_TO_79);
    }

    private static void pairNorm() {
        Edge.index(31, PAIR, (x, pair) -> x.pairNorm(pair));
        Edge.sentence(31, "Returns the NORM of its LEFT and its RIGHT over its BASE.");
        Edge.eq("of 0, 0", Edge.pairOf(61, 0, 0).pairNorm(0), "0");
        Edge.eq("above 0", Edge.pairOf(61, -1000, 0).pairNorm(0), "1000000");
        Edge.eq("below 0", Edge.pairOf(99, 0, -1000).pairNorm(0), "-99000000");
        Edge.eq("80 BITS of LEFT", justBelow().pairNorm(0), new BigInteger("1208925819614629174705920").pow(2).toString());
        Rootwalk x = Edge.leftOf(99, 512, 512, 512, 512, 512, 512, 512, 512, 128);
        x.put(1, 99, 0, -1);
        x.compose(0, 1, 1);
        Edge.eq("80 BITS of RIGHT", x.pairNorm(1), BigInteger.valueOf(-99).shiftLeft(158).toString());
        x.put(1, 99, 1, 1);
        x.compose(0, 1, 1);
        Edge.eq("80 BITS of both", x.pairNorm(1), BigInteger.valueOf(-98).shiftLeft(158).toString());
        int[][] sides = {{-999, 998}, {997, -991}, {-1000, -1}, {983, 127}, {3, -1000}, {-7, 999}, {1000, 101}};
        for (int[] side : sides) {
            for (int base : new int[] {2, 61, 99}) {
                normOfPowers(base, side[0], side[1]);
            }
        }
    }

    /** The NORM of a POWER is that POWER of the NORM: long numbers, above and below 0. */
    private static void normOfPowers(int base, int left, int right) {
        BigInteger norm = BigInteger.valueOf(left * left - base * right * right);
        for (int exponent = 0; exponent <= 5; exponent++) {
            Rootwalk x = Edge.pairOf(base, left, right);
            Edge.eq("it is done", x.power(0, exponent) != -9, true);
            Edge.eq("of the POWER " + exponent + " of " + Edge.pair(Edge.pairOf(base, left, right), 0), x.pairNorm(0), norm.pow(exponent).toString());
        }
    }

    private static void pairBits() {
        Edge.index(32, PAIR, (x, pair) -> x.pairBits(pair, true, 0));
        Edge.range(32, "Throws `IllegalArgumentException` if what is not 0 to 2", 0, 2, (x, what) -> x.pairBits(2, false, what));

        Edge.sentence(32, "0 the BITS of v, 1 how many binary digits of |v| are 1, 2 how many zeros stand behind the last binary digit 1 of |v| (-1 if v is 0)");
        Edge.eq("0", threeBits(Edge.pairOf(2, 0, 0), true) + "; " + threeBits(Edge.pairOf(2, 0, 0), false), "0 0 -1; 0 0 -1");
        Edge.eq("1 and -1", threeBits(Edge.pairOf(2, 1, -1), true) + "; " + threeBits(Edge.pairOf(2, 1, -1), false), "1 1 0; 1 1 0");
        Edge.eq("-2 and -1000", threeBits(Edge.pairOf(2, -2, -1000), true) + "; " + threeBits(Edge.pairOf(2, -2, -1000), false), "2 1 1; 10 6 3");
        for (int many = 9; many <= 79; many++) {
            Edge.eq("2^" + many, threeBits(Edge.twoTo(many), true), (many + 1) + " 1 " + many);
        }
        Edge.eq("2^28 - 1", threeBits(Edge.leftOf(2, 435, 43, 113, 127), true), "28 28 0");
        Edge.eq("2^80 - 256", threeBits(justBelow(), true), "80 72 8");
    }

    private static String threeBits(Rootwalk x, boolean isLeft) {
        return x.pairBits(0, isLeft, 0) + " " + x.pairBits(0, isLeft, 1) + " " + x.pairBits(0, isLeft, 2);
    }

    private static void rank() {
        Edge.index(33, PAIR, (x, pair) -> x.rank(pair));

        Edge.sentence(33, "Returns its RANK; -1 if its NORM is not 1.");
        int[][] due = {
            {2, 1, 0, 0}, {2, -1, 0, 0}, {2, 3, 2, 1}, {2, -3, 2, 1}, {2, 3, -2, 1}, {2, -3, -2, 1}, {2, 17, 12, 2}, {2, 577, 408, 4},
            {2, 0, 0, -1}, {2, 0, 1, -1}, {2, 1, 1, -1}, {2, 2, 0, -1}, {2, 2, 1, -1}, {2, 7, 5, -1}, {2, 10, 7, -1}, {3, 3, 2, -1}, {99, 10, 1, 1}
        };
        for (int[] row : due) {
            Rootwalk x = Edge.pairOf(row[0], row[1], row[2]);
            Edge.eq("of " + Edge.pair(x, 0), x.rank(0), row[3]);
        }
        Edge.eq("of 80 BITS", justBelow().rank(0), -1);
    }

    private static void order() {
        Edge.index(34, ONE_OR_OTHER, (x, one) -> x.order(one, 0, true));
        Edge.index(34, ONE_OR_OTHER, (x, other) -> x.order(0, other, false));

        Edge.sentence(34, "Returns 1 if that of the first one is greater, -1 if it is less, 0 if they are equal (of whatever BASES).");
        int[][] due = {{0, 0, 0}, {1, 0, 1}, {0, -1, 1}, {1, -1, 1}, {-1, -2, 1}, {1000, 999, 1}, {-1000, -1000, 0}, {-1000, 1, -1}, {-1, 0, -1}};
        for (int[] row : due) {
            Rootwalk x = Edge.pairOf(99, row[0], -row[0]);
            x.put(1, 2, row[1], -row[1]);
            Edge.eq(row[0] + " and " + row[1], x.order(0, 1, true), row[2]);
            Edge.eq("the other way round", x.order(1, 0, true), -row[2]);
            Edge.eq("RIGHT, below 0", x.order(0, 1, false), -row[2]);
        }
        Edge.eq("one with itself", Edge.busy().order(0, 0, true), 0);
        Rootwalk x = justBelow();
        x.pairCopy(0, 1);
        Edge.eq("80 BITS, equal", x.order(0, 1, true), 0);
        x.mirror(1, true);
        Edge.eq("80 BITS, the other one below 0", x.order(0, 1, true) + " " + x.order(1, 0, true), "1 -1");
        Rootwalk z = Edge.twoTo(79);
        z.put(1, 2, 1000, 0);
        Edge.eq("longer ones are greater", z.order(0, 1, true), 1);
        z.mirror(0, true);
        z.mirror(1, true);
        Edge.eq("below 0 they are less", z.order(0, 1, true), -1);
    }

    private static void isSame() {
        Edge.index(35, ONE_OR_OTHER, (x, one) -> x.isSame(one, 0));
        Edge.index(35, ONE_OR_OTHER, (x, other) -> x.isSame(0, other));
        Edge.sentence(35, "Returns whether they are the SAME.");
        for (int pair = 0; pair <= 2; pair++) {
            Edge.eq("one with itself", Edge.busy().isSame(pair, pair), true);
        }
        Rootwalk x = Edge.pairOf(2, 0, 0);
        x.put(1, 3, 0, 0);
        Edge.eq("0, 0 of unlike BASES", x.isSame(0, 1), false);
        x.put(1, 2, 0, 0);
        x.mirror(1, true);
        Edge.eq("0, 0 mirrored", x.isSame(0, 1), true);
    }

    private static void extreme() {
        Edge.sentence(36, "whether the greatest one; otherwise the least one (one below 0 is less than 0)");
        Edge.eq("all equal", fourExtremes(0, 0, 0), "0 0");
        Edge.eq("one below 0", fourExtremes(0, -1, 0), "0 -1");
        Edge.eq("all below 0", fourExtremes(-3, -30, -4), "-3 -30");
        Edge.eq("all above 0", fourExtremes(30, 3, 4), "30 3");
        Edge.eq("both sides of 0", fourExtremes(1, 0, -1000), "1 -1000");
        Edge.eq("the last one is both", fourExtremes(5, 5, 5), "5 5");
        Edge.eq("each at each place", fourExtremes(2, 3, 1) + "; " + fourExtremes(3, 1, 2) + "; " + fourExtremes(1, 2, 3), "3 1; 3 1; 3 1");
        Rootwalk x = justBelow();
        x.pairCopy(0, 1);
        x.mirror(1, true);
        Edge.eq("80 BITS", x.extreme(true, true) + " " + x.extreme(true, false), "1208925819614629174705920 -1208925819614629174705920");
        Edge.eq("RIGHT of those", x.extreme(false, true) + " " + x.extreme(false, false), "0 0");
    }

    /** The greatest and the least one of the three, as LEFTS and then as RIGHTS, where both are to be the same. */
    private static String fourExtremes(int first, int second, int third) {
        Rootwalk x = Edge.pairOf(2, first, 7);
        x.put(1, 3, second, 7);
        x.put(2, 99, third, 7);
        String lefts = x.extreme(true, true) + " " + x.extreme(true, false);
        x.put(0, 2, 7, first);
        x.put(1, 3, 7, second);
        x.put(2, 99, 7, third);
        Edge.eq("RIGHTS", x.extreme(false, true) + " " + x.extreme(false, false), lefts);
        return lefts;
    }
}
