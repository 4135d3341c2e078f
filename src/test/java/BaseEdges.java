import java.math.BigInteger;

/** The edges of the Description's "2. Solutions" and of the promises 15 to 20. */
final class BaseEdges {
    private static final String BASE = "Throws `IllegalArgumentException` if base is not a BASE";

    private BaseEdges() {
    }

    static void all() {
        norms();
        leastSolutions();
        leastMinuses();
        middles();
        rootText();
        period();
        periodText();
        solution();
        minus();
        middle();
    }

    // ---- 2. Solutions

    private static void norms() {
        Edge.sentence(Edge.DESCRIPTION, "The NORM of two whole numbers x and y over a BASE n is x * x - n * y * y.");
        Edge.eq("of 0 and 0", Edge.pairOf(99, 0, 0).pairNorm(0), "0");
        Edge.eq("of 1 and 0", Edge.pairOf(99, 1, 0).pairNorm(0), "1");
        Edge.eq("of 0 and 1", Edge.pairOf(99, 0, 1).pairNorm(0), "-99");
        Edge.eq("of -3 and -2", Edge.pairOf(2, -3, -2).pairNorm(0), "1");
        Edge.eq("of -1000 and 1000", Edge.pairOf(99, -1000, 1000).pairNorm(0), "-98000000");
    }

    private static void leastSolutions() {
        Edge.sentence(Edge.DESCRIPTION, "The LEAST SOLUTION of n is P(s - 1) and Q(s - 1), with s the PERIOD if that is even, otherwise twice the PERIOD.");
        Edge.eq("PERIOD 1", solved(2) + "; " + solved(5) + "; " + solved(82), "3 2; 9 4; 163 18");
        Edge.eq("PERIOD 2", solved(3) + "; " + solved(8) + "; " + solved(99), "2 1; 3 1; 10 1");
        Edge.eq("PERIOD 3", solved(41), "2049 320");
        Edge.eq("PERIOD 11", solved(61) + "; " + solved(97), "1766319049 226153980; 62809633 6377352");
        Edge.eq("PERIOD 16", solved(94), "2143295 221064");
        for (int base = 2; base <= 99; base++) {
            if (!Edge.isSquare(base)) {
                Edge.eq("NORM of that of " + base, norm(base, solved(base)), BigInteger.ONE);
            }
        }
    }

    private static BigInteger norm(int base, String numbers) {
        String[] sides = numbers.split(" ");
        BigInteger left = new BigInteger(sides[0]);
        BigInteger right = new BigInteger(sides[1]);
        return left.multiply(left).subtract(right.multiply(right).multiply(BigInteger.valueOf(base)));
    }

    private static String solved(int base) {
        Rootwalk x = new Rootwalk();
        return x.solution(base, true) + " " + x.solution(base, false);
    }

    private static void leastMinuses() {
        Edge.sentence(Edge.DESCRIPTION, "The LEAST MINUS of n, if PERIOD is odd, is P(PERIOD - 1) and Q(PERIOD - 1) (its NORM is -1); if PERIOD is even, there is none.");
        Edge.eq("PERIOD 1", minusOf(2) + "; " + minusOf(82), "1 1; 9 1");
        Edge.eq("PERIOD 3", minusOf(41), "32 5");
        Edge.eq("PERIOD 11", minusOf(61) + "; " + minusOf(97), "29718 3805; 5604 569");
        Edge.eq("PERIOD 2 and 16", minusOf(3) + minusOf(99) + minusOf(94), "   ");
        for (int base = 2; base <= 99; base++) {
            if (!Edge.isSquare(base) && !minusOf(base).isBlank()) {
                Edge.eq("NORM of that of " + base, norm(base, minusOf(base)), BigInteger.ONE.negate());
            }
        }
    }

    private static String minusOf(int base) {
        Rootwalk x = new Rootwalk();
        return x.minus(base, true) + " " + x.minus(base, false);
    }

    private static void middles() {
        Edge.sentence(Edge.DESCRIPTION, "The MIDDLE of n, if PERIOD is odd, is M(h) and D(h), with h = (PERIOD + 1) / 2; if PERIOD is even, there is none.");
        Rootwalk x = new Rootwalk();
        Edge.eq("PERIOD 1", x.middle(2) + "; " + x.middle(5) + "; " + x.middle(82), "1 1; 2 1; 9 1");
        Edge.eq("PERIOD 3, 5, 7 and 11", x.middle(41) + "; " + x.middle(85) + "; " + x.middle(58) + "; " + x.middle(97), "4 5; 2 9; 3 7; 4 9");
        Edge.eq("PERIOD 2, 4 and 16", x.middle(3) + x.middle(7) + x.middle(94), "");
    }

    // ---- the questions

    private static void rootText() {
        String range = "Throws `IllegalArgumentException` if base is not 1 to 99, or places is not 0 to 16";
        Edge.range(15, range, 1, 99, (x, base) -> x.rootText(base, 16));
        Edge.range(15, range, 0, 16, (x, places) -> x.rootText(99, places));

        Edge.sentence(15, "a whole number n, a square, too");
        Rootwalk x = new Rootwalk();
        for (int root = 1; root <= 9; root++) {
            Edge.eq("no place, " + root * root, x.rootText(root * root, 0), "" + root);
            Edge.eq("all places, " + root * root, x.rootText(root * root, 16), root + "0000000000000000");
        }

        Edge.sentence(15, "Returns the EXACT root of n (that of a square is whole) * 10^e, rounded down.");
        Edge.eq("the least one", x.rootText(1, 0) + " " + x.rootText(1, 1), "1 10");
        Edge.eq("below the next whole number", x.rootText(99, 0) + " " + x.rootText(99, 1) + " " + x.rootText(80, 0), "9 99 8");
        Edge.eq("above a whole number", x.rootText(82, 0) + " " + x.rootText(82, 1) + " " + x.rootText(2, 0), "9 90 1");
        Edge.eq("all places", x.rootText(99, 16) + " " + x.rootText(82, 16) + " " + x.rootText(80, 16) + " " + x.rootText(2, 16),
            "99498743710661995 90553851381374166 89442719099991587 14142135623730950");
        Edge.eq("one place less", x.rootText(99, 15) + " " + x.rootText(80, 15), "9949874371066199 8944271909999158");
    }

    private static void period() {
        Edge.base(16, BASE, (x, base) -> x.period(base));
        Edge.sentence(16, "Returns its PERIOD.");
        Rootwalk x = new Rootwalk();
        Edge.eq("of the least BASE", x.period(2), 1);
        Edge.eq("of the greatest BASE", x.period(99), 2);
        Edge.eq("the greatest one, and the greatest odd ones", x.period(94) + " " + x.period(61) + " " + x.period(97), "16 11 11");
    }

    private static void periodText() {
        Edge.base(17, BASE, (x, base) -> x.periodText(base));
        Edge.sentence(17, "Returns A(0) to A(PERIOD), with \" \" between.");
        Rootwalk x = new Rootwalk();
        Edge.eq("PERIOD 1", x.periodText(2) + "; " + x.periodText(82), "1 2; 9 18");
        Edge.eq("PERIOD 2", x.periodText(3) + "; " + x.periodText(99), "1 1 2; 9 1 18");
        Edge.eq("PERIOD 16", x.periodText(94), "9 1 2 3 1 1 5 1 8 1 5 1 1 3 2 1 18");
    }

    private static void solution() {
        Edge.base(18, BASE, (x, base) -> x.solution(base, true));
        Edge.base(18, BASE, (x, base) -> x.solution(base, false));
        Edge.sentence(18, "whether the first number of its LEAST SOLUTION; otherwise the second one");
        Edge.eq("of the least BASE", solved(2), "3 2");
        Edge.eq("of the greatest BASE", solved(99), "10 1");
        Edge.eq("the longest one", solved(61), "1766319049 226153980");
    }

    private static void minus() {
        Edge.base(19, BASE, (x, base) -> x.minus(base, true));
        Edge.base(19, BASE, (x, base) -> x.minus(base, false));
        Edge.sentence(19, "Returns that; \"\" if there is none.");
        Rootwalk x = new Rootwalk();
        int some = 0;
        for (int base = 2; base <= 99; base++) {
            if (!Edge.isSquare(base)) {
                boolean isNone = x.period(base) % 2 == 0;
                Edge.eq("none of " + base, x.minus(base, true).isEmpty() + " " + x.minus(base, false).isEmpty(), isNone + " " + isNone);
                some += isNone ? 0 : 1;
            }
        }
        Edge.eq("so many BASES have one", some, 20);
        Edge.eq("the least one", minusOf(2), "1 1");
        Edge.eq("the longest one", minusOf(61), "29718 3805");
    }

    private static void middle() {
        Edge.base(20, BASE, (x, base) -> x.middle(base));
        Edge.sentence(20, "Returns both numbers of its MIDDLE, M(h) first, with \" \" between; \"\" if there is none.");
        Rootwalk x = new Rootwalk();
        for (int base = 2; base <= 99; base++) {
            if (!Edge.isSquare(base)) {
                Edge.eq("none of " + base, x.middle(base).isEmpty(), x.period(base) % 2 == 0);
            }
        }
        Edge.eq("M(1) first", x.middle(5), "2 1");
        Edge.eq("M(6) first", x.middle(61), "6 5");
    }
}
