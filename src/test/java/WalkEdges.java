/** The edges of the Description's "1. Walks" and of the promises 2 to 14. */
final class WalkEdges {
    private static final String WALK = "Throws `IndexOutOfBoundsException` if walk is not 0 to 2";

    private WalkEdges() {
    }

    static void all() {
        bases();
        recursion();
        rowsBeforeTheFirst();
        periods();
        threeWalks();
        numbersOfAWalk();
        open();
        forth();
        back();
        walkCopy();
        part();
        walkText();
        test();
        walkBits();
        bit();
        isRead();
        isNear();
        decimals();
        alike();
    }

    // ---- 1. Walks

    private static void bases() {
        Edge.base(Edge.DESCRIPTION, "A BASE is a whole number n of 2 to 99 that is not a square (not 4, 9, 16, 25, 36, 49, 64, 81).",
            (x, n) -> x.open(1, n));

        Edge.sentence(Edge.DESCRIPTION, "Its ROOT r is the greatest whole number with r * r <= n;");
        int[][] roots = {
            {2, 1}, {3, 1}, {5, 2}, {8, 2}, {10, 3}, {15, 3}, {17, 4}, {24, 4}, {26, 5}, {35, 5}, {37, 6}, {48, 6},
            {50, 7}, {63, 7}, {65, 8}, {80, 8}, {82, 9}, {99, 9}
        };
        for (int[] root : roots) {
            Edge.eq("ROOT of " + root[0], Edge.walkAt(root[0], 3).part(0, 2), root[1]);
        }
    }

    private static void recursion() {
        Edge.sentence(Edge.DESCRIPTION, "M(0) = 0, D(0) = 1, A(0) = r;");
        Edge.eq("of 2", parts(2, 0), "0 1 1");
        Edge.eq("of 99", parts(99, 0), "0 1 9");
        Edge.eq("of 61", parts(61, 0), "0 1 7");

        Edge.sentence(Edge.DESCRIPTION, "M(k) = D(k - 1) * A(k - 1) - M(k - 1); D(k) = (n - M(k) * M(k)) / D(k - 1) (there is never a rest);");
        for (int base = 2; base <= 99; base++) {
            if (!Edge.isSquare(base)) {
                eachStep(base);
            }
        }

        Edge.sentence(Edge.DESCRIPTION, "A(k) = (r + M(k)) / D(k), rounded down.");
        Edge.eq("of 61 at 1, 14 / 12", parts(61, 1), "7 12 1");
        Edge.eq("of 61 at 2, 12 / 3 without a rest", parts(61, 2), "5 3 4");
        Edge.eq("of 61 at 3, 14 / 4", parts(61, 3), "7 4 3");
        Edge.eq("of 3 at 1, 2 / 2", parts(3, 1), "1 2 1");
        Edge.eq("of 94 at 24", parts(94, 24), "8 2 8");
    }

    private static void eachStep(int base) {
        Rootwalk x = Edge.walkAt(base, 0);
        for (int step = 1; step <= 24; step++) {
            int m = x.part(0, 3);
            int d = x.part(0, 4);
            int a = x.part(0, 5);
            x.forth(0, 1);
            Edge.eq("M of " + Edge.walk(x, 0), x.part(0, 3), d * a - m);
            Edge.eq("D of " + Edge.walk(x, 0), x.part(0, 4) * d, base - x.part(0, 3) * x.part(0, 3));
        }
    }

    private static String parts(int base, int step) {
        Rootwalk x = Edge.walkAt(base, step);
        return x.part(0, 3) + " " + x.part(0, 4) + " " + x.part(0, 5);
    }

    private static void rowsBeforeTheFirst() {
        Edge.sentence(Edge.DESCRIPTION, "P(-1) = 1, Q(-1) = 0, P(0) = r, Q(0) = 1;");
        Edge.eq("of 2 at 0", fourNumbers(2, 0), "1 1 1 0");
        Edge.eq("of 99 at 0", fourNumbers(99, 0), "9 1 1 0");

        Edge.sentence(Edge.DESCRIPTION, "where P(-1) is P(k - 2) for k = 1; Q(k) in the same way from A(k) and the Qs.");
        Edge.eq("of 2 at 1", fourNumbers(2, 1), "3 2 1 1");
        Edge.eq("of 61 at 1", fourNumbers(61, 1), "8 1 7 1");
        Edge.eq("of 99 at 1", fourNumbers(99, 1), "10 1 9 1");
        Edge.eq("of 82 at 1", fourNumbers(82, 1), "163 18 9 1");
    }

    private static String fourNumbers(int base, int step) {
        Rootwalk x = Edge.walkAt(base, step);
        StringBuilder out = new StringBuilder();
        for (int which = 0; which <= 3; which++) {
            out.append(which == 0 ? "" : " ").append(x.walkText(0, which, 10));
        }
        return out.toString();
    }

    private static void periods() {
        Edge.sentence(Edge.DESCRIPTION, "PERIOD of n is the least k above 0 with D(k) = 1.");
        Rootwalk x = new Rootwalk();
        for (int n : new int[] {2, 5, 10, 17, 26, 37, 50, 65, 82}) {
            Edge.eq("the least one there is, of " + n, x.period(n), 1);
        }
        for (int n : new int[] {3, 6, 8, 99}) {
            Edge.eq("of " + n, x.period(n), 2);
        }
        Edge.eq("not twice it, of 61", x.period(61), 11);
        Edge.eq("the greatest one, of 94", x.period(94), 16);
    }

    private static void threeWalks() {
        Edge.sentence(Edge.DESCRIPTION, "There are three WALKS, 0 to 2. Each has a BASE and stands at a STEP k of 0 to 24; at first the BASE is 2 and the STEP 0.");
        Rootwalk x = new Rootwalk();
        for (int walk = 0; walk <= 2; walk++) {
            Edge.eq("WALK " + walk, Edge.walk(x, walk), "2 at 0");
        }
        Edge.go(x, 1, 24);
        Edge.eq("the farthest", Edge.walk(x, 1), "2 at 24");
        Edge.eq("beside it", Edge.walk(x, 0) + ", " + Edge.walk(x, 2), "2 at 0, 2 at 0");
    }

    private static void numbersOfAWalk() {
        Edge.sentence(Edge.DESCRIPTION, "TOP is P(k), BOTTOM is Q(k), CROSS is P(k) * Q(k - 1) - P(k - 1) * Q(k), all for its BASE and its STEP.");
        Rootwalk x = new Rootwalk();
        Edge.eq("at 0: 1 * 0 - 1 * 1", x.test(0, 1), -1);
        x.open(1, 82);
        Edge.go(x, 1, 24);
        x.open(2, 82);
        Edge.go(x, 2, 23);
        Edge.eq("TOPS of 82 at 24 and 23", x.walkBits(1, true, 0) + " " + x.walkBits(2, true, 0), "104 100");
        Edge.eq("BOTTOMS", x.walkBits(1, false, 0) + " " + x.walkBits(2, false, 0), "101 97");
        Edge.eq("CROSSES", x.test(1, 1) + " " + x.test(2, 1), "-1 1");
    }

    // ---- the acts

    private static void open() {
        Edge.index(2, WALK, (x, walk) -> x.open(walk, 3));
        Edge.base(2, "Throws `IllegalArgumentException` if base is not a BASE", (x, base) -> x.open(2, base));

        Edge.sentence(2, "A WALK begins with a BASE, at STEP 0.");
        Rootwalk x = Edge.walkAt(61, 24);
        Edge.isDone("with another BASE", x, 0, y -> y.open(0, 99), 9);
        Edge.eq("it stands", Edge.walk(x, 0), "99 at 0");
        Edge.go(x, 0, 7);
        Edge.isDone("with its own BASE", x, 0, y -> y.open(0, 99), 9);
        Edge.eq("it stands again", Edge.walk(x, 0), "99 at 0");
        Edge.isDone("where it stands", x, 0, y -> y.open(0, 99), 9);

        Edge.sentence(2, "Returns the ROOT of it.");
        Edge.isDone("of the least BASE", x, 0, y -> y.open(2, 2), 1);
        Edge.isDone("of the greatest BASE", x, 0, y -> y.open(2, 99), 9);
        Edge.isDone("of the one above a square", x, 0, y -> y.open(2, 65), 8);
        Edge.isDone("of the one below a square", x, 0, y -> y.open(2, 80), 8);
    }

    private static void forth() {
        Edge.index(3, WALK, (x, walk) -> x.forth(walk, 1));
        Edge.range(3, "Throws `IllegalArgumentException` if many is not 1 to 6", 1, 6, (x, many) -> x.forth(1, many));

        Edge.sentence(3, "Returns its STEP then; -9 if that would be above 24 (then it does not go at all).");
        for (int many = 1; many <= 6; many++) {
            int steps = many;
            Edge.isDone("from 0", new Rootwalk(), 0, x -> x.forth(0, steps), many);
            Rootwalk full = Edge.walkAt(61, 24 - many);
            Edge.isDone("just to 24", full, 0, x -> x.forth(0, steps), 24);
            Edge.tellsMinusNine("from 24", full, x -> x.forth(0, steps));
            Edge.tellsMinusNine("to 25", Edge.walkAt(61, 25 - many), x -> x.forth(0, steps));
        }
        Rootwalk near = Edge.walkAt(61, 23);
        Edge.tellsMinusNine("by 6 from 23", near, x -> x.forth(0, 6));
        Edge.isDone("by 1 from 23", near, 0, x -> x.forth(0, 1), 24);
    }

    private static void back() {
        Edge.index(4, WALK, (x, walk) -> x.back(walk));

        Edge.sentence(4, "Returns its STEP then; -9 if it stands at STEP 0.");
        Rootwalk x = new Rootwalk();
        Edge.tellsMinusNine("of a new WALK", x, y -> y.back(0));
        x.forth(0, 2);
        Edge.isDone("from 2", x, 0, y -> y.back(0), 1);
        Edge.isDone("from 1", x, 0, y -> y.back(0), 0);
        Edge.tellsMinusNine("from 0", x, y -> y.back(0));
        Edge.isDone("from 24", Edge.walkAt(94, 24), 0, y -> y.back(0), 23);
    }

    private static void walkCopy() {
        String throwsIndex = "Throws `IndexOutOfBoundsException` if walk or into is not 0 to 2";
        Edge.index(5, throwsIndex, (x, walk) -> x.walkCopy(walk, 1));
        Edge.index(5, throwsIndex, (x, into) -> x.walkCopy(0, into));

        Edge.sentence(5, "Returns 1 if its BASE or its STEP was another one, otherwise 0.");
        Rootwalk x = Edge.walkAt(61, 24);
        x.open(1, 61);
        Edge.isDone("on itself", x, 0, y -> y.walkCopy(0, 0), 0);
        Edge.isDone("another STEP alone", x, 0, y -> y.walkCopy(0, 1), 1);
        Edge.isDone("neither", x, 0, y -> y.walkCopy(0, 1), 0);
        x.open(0, 60);
        x.open(1, 61);
        Edge.isDone("another BASE alone", x, 0, y -> y.walkCopy(1, 0), 1);
        Edge.eq("taken", Edge.walk(x, 0), "61 at 0");
        x.forth(0, 5);
        Edge.isDone("both", x, 0, y -> y.walkCopy(0, 2), 1);
        Edge.eq("from which it is taken", Edge.walk(x, 0), "61 at 5");
        Edge.eq("which took", Edge.walk(x, 2), "61 at 5");
    }

    // ---- the questions

    private static void part() {
        Edge.index(6, WALK, (x, walk) -> x.part(walk, 5));
        Edge.range(6, "Throws `IllegalArgumentException` if what is not 0 to 5", 0, 5, (x, what) -> x.part(0, what));

        Edge.sentence(6, "0 its BASE, 1 its STEP k, 2 its ROOT, 3 M(k), 4 D(k), 5 A(k)");
        Edge.eq("of 2 at 0", sixParts(2, 0), "2 0 1 0 1 1");
        Edge.eq("of 2 at 24", sixParts(2, 24), "2 24 1 1 1 2");
        Edge.eq("of 99 at 0", sixParts(99, 0), "99 0 9 0 1 9");
        Edge.eq("of 99 at 24", sixParts(99, 24), "99 24 9 9 1 18");
    }

    private static String sixParts(int base, int step) {
        Rootwalk x = Edge.walkAt(base, step);
        StringBuilder out = new StringBuilder();
        for (int what = 0; what <= 5; what++) {
            out.append(what == 0 ? "" : " ").append(x.part(0, what));
        }
        return out.toString();
    }

    private static void walkText() {
        String range = "Throws `IllegalArgumentException` if which is not 0 to 3, or radix is not 2 to 16";
        Edge.index(7, WALK, (x, walk) -> x.walkText(walk, 0, 10));
        Edge.range(7, range, 0, 3, (x, which) -> x.walkText(1, which, 16));
        Edge.radix(7, range, (x, radix) -> x.walkText(0, 3, radix));

        Edge.sentence(7, "0 P(k), 1 Q(k), 2 P(k - 1), 3 Q(k - 1), for its STEP k");
        Edge.eq("of 3 at 0", fourNumbers(3, 0), "1 1 1 0");
        Edge.eq("of 3 at 24", fourNumbers(3, 24), "9973081 5757961 3650401 2107560");
        Edge.eq("of 82 at 24", fourNumbers(82, 24), "13005855469267585583459383112409 1436256467380108914901151473801"
            + " 720331101760660770759972840001 79547262846605349349019848200");

        Edge.sentence(7, "Returns that number in this RADIX.");
        Rootwalk x = Edge.walkAt(82, 24);
        Edge.eq("the least RADIX", x.walkText(0, 0, 2), "101001000010100000101111011111100110110010011110101010110"
            + "10101011010100010110010010010111111001011011001");
        Edge.eq("just ten digits", x.walkText(0, 1, 10), "1436256467380108914901151473801");
        Edge.eq("one digit more", x.walkText(0, 0, 11), "82206928801066499669a267787100");
        Edge.eq("the greatest RADIX", x.walkText(0, 1, 16), "1220cb8124fe56676e80316089");
        for (int radix = 2; radix <= 16; radix++) {
            Edge.eq("0 by " + radix, x.walkText(1, 3, radix), "0");
            Edge.eq("1 by " + radix, x.walkText(1, 0, radix), "1");
        }
    }

    private static void test() {
        Edge.index(8, WALK, (x, walk) -> x.test(walk, 2));
        Edge.range(8, "Throws `IllegalArgumentException` if what is not 0 to 2", 0, 2, (x, what) -> x.test(0, what));

        Edge.sentence(8, "0 the greatest common divisor of TOP and BOTTOM, 1 CROSS, 2 the NORM of TOP and BOTTOM");
        int[][] due = {{2, 0, -1, -1}, {2, 1, 1, 1}, {99, 0, -1, -18}, {99, 24, -1, -18}, {82, 24, -1, -1}, {82, 23, 1, 1}, {94, 16, -1, -13}};
        for (int[] at : due) {
            Rootwalk x = Edge.walkAt(at[0], at[1]);
            Edge.eq("of " + Edge.walk(x, 0), x.test(0, 0) + " " + x.test(0, 1) + " " + x.test(0, 2), "1 " + at[2] + " " + at[3]);
        }
    }

    private static void walkBits() {
        Edge.index(9, WALK, (x, walk) -> x.walkBits(walk, true, 0));
        Edge.range(9, "Throws `IllegalArgumentException` if what is not 0 to 2", 0, 2, (x, what) -> x.walkBits(1, false, what));

        Edge.sentence(9, "0 the BITS of it, 1 how many of its binary digits are 1, 2 how many zeros stand behind its last binary digit 1");
        Edge.eq("1", threeBits(new Rootwalk(), true), "1 1 0");
        Edge.eq("8, the TOP of 61 at 1", threeBits(Edge.walkAt(61, 1), true), "4 1 3");
        Edge.eq("7, the TOP of 61 at 0", threeBits(Edge.walkAt(61, 0), true), "3 3 0");
        Edge.eq("256, the TOP of 13 at 7", threeBits(Edge.walkAt(13, 7), true), "9 1 8");
        Edge.eq("255, the BOTTOM of 63 at 5", threeBits(Edge.walkAt(63, 5), false), "8 8 0");
        Edge.eq("16, the BOTTOM of 63 at 3", threeBits(Edge.walkAt(63, 3), false), "5 1 4");
        Edge.eq("the longest TOP", threeBits(Edge.walkAt(82, 24), true), "104 55 0");
        Edge.eq("the longest BOTTOM", threeBits(Edge.walkAt(82, 24), false), "101 42 0");
        Edge.eq("three zeros behind", threeBits(Edge.walkAt(82, 23), false), "97 43 3");
    }

    private static String threeBits(Rootwalk x, boolean isTop) {
        return x.walkBits(0, isTop, 0) + " " + x.walkBits(0, isTop, 1) + " " + x.walkBits(0, isTop, 2);
    }

    private static void bit() {
        Edge.index(10, WALK, (x, walk) -> x.bit(walk, true, 0));
        Edge.range(10, "Throws `IllegalArgumentException` if place is not 0 to 119", 0, 119, (x, place) -> x.bit(0, true, place));

        Edge.sentence(10, "the place of a binary digit, the last one has the place 0");
        Edge.eq("8 at 0 and 3", bits(Edge.walkAt(61, 1), true, 0, 3), "0 1");
        Edge.eq("1 at 0 and 1", bits(Edge.walkAt(61, 1), false, 0, 1), "1 0");
        Edge.eq("7 at 0, 1, 2 and 3", bits(Edge.walkAt(61, 0), true, 0, 1, 2, 3), "1 1 1 0");

        Edge.sentence(10, "(ahead of its first digit there are zeros)");
        Rootwalk x = Edge.walkAt(82, 24);
        Edge.eq("the longest TOP", bits(x, true, 102, 103, 104, 105, 111, 112, 118, 119), "0 1 0 0 0 0 0 0");
        Edge.eq("the longest BOTTOM", bits(x, false, 100, 101, 119), "1 0 0");
        for (int place = 1; place <= 119; place++) {
            Edge.eq("1 at " + place, x.bit(1, false, place), false);
        }

        Edge.sentence(10, "Returns whether that digit is 1");
        String digits = new StringBuilder(x.walkText(0, 0, 2)).reverse().toString();
        for (int place = 0; place < digits.length(); place++) {
            Edge.eq("at " + place, x.bit(0, true, place), digits.charAt(place) == '1');
        }
    }

    private static String bits(Rootwalk x, boolean isTop, int... places) {
        StringBuilder out = new StringBuilder();
        for (int place : places) {
            out.append(out.length() == 0 ? "" : " ").append(x.bit(0, isTop, place) ? 1 : 0);
        }
        return out.toString();
    }

    private static void isRead() {
        String range = "Throws `IllegalArgumentException` if radix is not 0 and not 2 to 16";
        Edge.index(11, WALK, (x, walk) -> x.isRead(walk, 0));
        Edge.sentence(11, range);
        Edge.eq("radix 0", Edge.answer(x -> x.isRead(0, 0), new Rootwalk()), true);
        for (int radix = 2; radix <= 16; radix++) {
            int by = radix;
            Edge.eq("radix " + radix, Edge.answer(x -> x.isRead(0, by), new Rootwalk()), true);
        }
        for (int radix : new int[] {1, -1, -2, 17, 18, Edge.MIN, Edge.MAX}) {
            Edge.refuses(IllegalArgumentException.class, "radix " + radix, Edge.busy(), x -> x.isRead(0, radix));
        }

        Edge.sentence(11, "Returns whether both are what they were: always.");
        for (int[] at : new int[][] {{2, 0}, {61, 1}, {13, 7}, {63, 5}, {82, 24}, {99, 24}}) {
            Rootwalk x = Edge.walkAt(at[0], at[1]);
            for (int radix = 0; radix <= 16; radix += radix == 0 ? 2 : 1) {
                Edge.eq(Edge.walk(x, 0) + " by " + radix, x.isRead(0, radix), true);
            }
        }
    }

    private static void isNear() {
        Edge.index(12, WALK, (x, walk) -> x.isNear(walk, 1));
        Edge.range(12, "Throws `IllegalArgumentException` if times is not 1 to 3", 1, 3, (x, times) -> x.isNear(0, times));

        Edge.sentence(12, "Returns whether TOP / BOTTOM is away from the EXACT root by less than 1 / (t * Q(k) * Q(k + 1)), "
            + "for its STEP k (of 24, too): whether t is 1.");
        for (int base = 2; base <= 99; base++) {
            if (Edge.isSquare(base)) {
                continue;
            }
            for (int step : new int[] {0, 1, 23, 24}) {
                Rootwalk x = Edge.walkAt(base, step);
                Edge.eq(Edge.walk(x, 0), x.isNear(0, 1) + " " + x.isNear(0, 2) + " " + x.isNear(0, 3), "true false false");
            }
        }
    }

    private static void decimals() {
        Edge.index(13, WALK, (x, walk) -> x.decimals(walk, 0));
        Edge.range(13, "Throws `IllegalArgumentException` if places is not 0 to 16", 0, 16, (x, places) -> x.decimals(0, places));

        Edge.sentence(13, "Returns TOP * 10^e / BOTTOM, rounded down.");
        Edge.eq("1 / 1, no place", new Rootwalk().decimals(0, 0), "1");
        Edge.eq("1 / 1, all places", new Rootwalk().decimals(0, 16), "10000000000000000");
        Edge.eq("10 / 1, the greatest there is", Edge.walkAt(99, 1).decimals(0, 16), "100000000000000000");
        Edge.eq("5 / 3, not up to 17", Edge.walkAt(3, 2).decimals(0, 1), "16");
        Edge.eq("5 / 3, not up to 2", Edge.walkAt(3, 2).decimals(0, 0), "1");
        Edge.eq("7 / 4, without a rest", Edge.walkAt(3, 3).decimals(0, 2), "175");
        Edge.eq("7 / 4, with one", Edge.walkAt(3, 3).decimals(0, 1), "17");
        Edge.eq("the longest numbers, no place", Edge.walkAt(82, 24).decimals(0, 0), "9");
        Edge.eq("the longest numbers, all places", Edge.walkAt(82, 24).decimals(0, 16), "90553851381374166");
    }

    private static void alike() {
        Edge.index(14, WALK, (x, walk) -> x.alike(walk));

        Edge.sentence(14, "Returns the greatest e of 0 to 16 for which decimals() of the WALK and rootText() of its BASE are the same, "
            + "both asked with e; -1 if there is none.");
        int[][] due = {
            {3, 1, -1}, {61, 1, -1}, {99, 1, -1}, {2, 0, 0}, {2, 1, 0}, {3, 2, 0}, {2, 2, 1}, {99, 2, 2}, {3, 23, 12},
            {5, 12, 15}, {17, 8, 15}, {82, 7, 16}, {61, 20, 16}, {94, 24, 16}
        };
        for (int[] at : due) {
            Rootwalk x = Edge.walkAt(at[0], at[1]);
            Edge.eq(Edge.walk(x, 0), x.alike(0), at[2]);
        }
        Rootwalk x = Edge.walkAt(5, 12);
        Edge.eq("the same with 15", x.decimals(0, 15).equals(x.rootText(5, 15)), true);
        Edge.eq("not the same with 16", x.decimals(0, 16).equals(x.rootText(5, 16)), false);
    }
}
