/** The edges of the Description's "4. Splits" and of the promises 37 to 45. */
final class SplitEdges {
    private static final String SPLIT = "Throws `IndexOutOfBoundsException` if split is not 0 to 2";
    private static final String ONE_OR_OTHER = "Throws `IndexOutOfBoundsException` if one or other is not 0 to 2";
    private static final String NUMBER = "Throws `IllegalArgumentException` if number is not -999 to 999";

    private SplitEdges() {
    }

    static void all() {
        rests();
        splittableNumbers();
        witnesses();
        threeSplits();
        steps();
        settled();
        ways();
        split();
        euclid();
        settle();
        splitNumber();
        way();
        product();
        symbol();
        inverse();
        isPrime();
    }

    // ---- 4. Splits

    private static void rests() {
        Edge.sentence(Edge.DESCRIPTION, "Rests by a number P are 0 to P - 1, also of numbers below 0.");
        Rootwalk x = Edge.splitOf(13);
        Edge.eq("of -1 by 13, inverse", x.inverse(0, -1), 12);
        Edge.eq("of -12 by 13, inverse", x.inverse(0, -12), 1);
        Edge.eq("of -13 by 13, inverse", x.inverse(0, -13), 0);
        Edge.eq("of -14 by 13, inverse", x.inverse(0, -14), 12);
        Edge.eq("of -11 by 13, symbol", x.symbol(0, -11), -1);
        Edge.eq("of -10 by 13, symbol", x.symbol(0, -10), 1);
        Edge.eq("of -13 by 13, symbol", x.symbol(0, -13), 0);
    }

    private static void splittableNumbers() {
        Edge.sentence(Edge.DESCRIPTION, "A SPLITTABLE number is a prime P of 5 to 997 whose rest by 4 is 1.");
        int splittable = 0;
        for (int number = 5; number <= 997; number++) {
            boolean isIt = number % 4 == 1 && hasNoDivisor(number);
            splittable += isIt ? 1 : 0;
            Edge.eq("" + number, new Rootwalk().split(0, number) != -9, isIt);
        }
        Edge.eq("so many there are", splittable, 80);
    }

    private static boolean hasNoDivisor(int number) {
        for (int by = 2; by < number; by++) {
            if (number % by == 0) {
                return false;
            }
        }
        return number > 1;
    }

    private static void witnesses() {
        Edge.sentence(Edge.DESCRIPTION, "Its WITNESS c is the least whole number from 2 on for which c^((P - 1) / 2) has the rest P - 1 by P.");
        int[][] due = {{5, 2}, {13, 2}, {997, 2}, {17, 3}, {977, 3}, {73, 5}, {937, 5}, {241, 7}, {769, 7}};
        for (int[] of : due) {
            Edge.eq("of " + of[0], Edge.splitOf(of[0]).splitNumber(0, 1), of[1]);
        }

        Edge.sentence(Edge.DESCRIPTION, "Its IMAGINARY i is the rest of c^((P - 1) / 4) by P.");
        int[][] imaginaries = {{5, 2}, {13, 8}, {17, 13}, {37, 31}, {769, 707}, {997, 161}};
        for (int[] of : imaginaries) {
            Edge.eq("of " + of[0], Edge.splitOf(of[0]).splitNumber(0, 2), of[1]);
        }
    }

    private static void threeSplits() {
        Edge.sentence(Edge.DESCRIPTION, "When it is begun with P: A = P, B = i, U = 0, V = 1, and no step is counted.");
        Rootwalk x = Edge.splitOf(997);
        Edge.eq("with 997", Edge.split(x, 0), "997 2 161 997 161 0 1 0");
        x.settle(0);
        x.split(0, 997);
        Edge.eq("with 997 again, behind steps", Edge.split(x, 0), "997 2 161 997 161 0 1 0");

        Edge.sentence(Edge.DESCRIPTION, "At first each SPLIT is begun with 5.");
        Rootwalk fresh = new Rootwalk();
        for (int split = 0; split <= 2; split++) {
            Edge.eq("SPLIT " + split, Edge.split(fresh, split), "5 2 2 5 2 0 1 0");
        }
    }

    private static void steps() {
        Edge.sentence(Edge.DESCRIPTION, "One step of Euclid, let if B is not 0: g = A / B, rounded down; then A becomes B and B becomes A - g * B,"
            + " U becomes V and V becomes U - g * V, all of these from what A, B, U, V were ahead of the step; and one step more is counted.");
        Rootwalk x = Edge.splitOf(41);
        String[] due = {"41 3 9 9 5 1 -4 1", "41 3 9 5 4 -4 5 2", "41 3 9 4 1 5 -9 3", "41 3 9 1 0 -9 41 4"};
        for (String after : due) {
            x.euclid(0);
            Edge.eq("a step", Edge.split(x, 0), after);
        }
        Edge.tellsMinusNine("with B = 0", x, y -> y.euclid(0));
        Rootwalk shortest = new Rootwalk();
        Edge.eq("the steps of 5", shortest.euclid(1) + " " + shortest.euclid(1) + " " + shortest.euclid(1), "1 0 -9");
        Rootwalk longest = Edge.splitOf(233);
        for (int step = 1; step <= 11; step++) {
            Edge.eq("B is not 0 ahead of the step " + step, longest.splitNumber(0, 4) != 0, true);
            longest.euclid(0);
        }
        Edge.eq("behind the last step of 233", Edge.split(longest, 0), "233 3 144 1 0 89 -233 11");
    }

    private static void settled() {
        Edge.sentence(Edge.DESCRIPTION, "It is SETTLED, if A * A < P.");
        // A as it is ahead of being SETTLED, and then: 5 * 5 < 29, 31 * 31 < 997, but 161 * 161 > 997
        Edge.eq("of 5, 5 and 2", settledBy(5), "1: 2");
        Edge.eq("of 17, 13 and 4", settledBy(17), "2: 4");
        Edge.eq("of 29, 12 and 5", settledBy(29), "2: 5");
        Edge.eq("of 37, 31 and 6", settledBy(37), "2: 6");
        Edge.eq("of 997, 161 and 31", settledBy(997), "2: 31");
        Edge.eq("of 233, 21 and 13", settledBy(233), "6: 13");
    }

    private static String settledBy(int number) {
        Rootwalk x = Edge.splitOf(number);
        return x.settle(0) + ": " + x.splitNumber(0, 3);
    }

    private static int[] numbers(String text) {
        String[] parts = text.split(" ");
        int[] found = new int[parts.length];
        for (int i = 0; i < parts.length; i++) {
            found[i] = Integer.parseInt(parts[i]);
        }
        return found;
    }

    private static void ways() {
        Edge.sentence(Edge.DESCRIPTION, "(Then A * A + B * B = P, and A > B > 0.)");
        for (int number = 5; number <= 997; number++) {
            Rootwalk x = new Rootwalk();
            if (x.split(0, number) != -9) {
                int[] way = numbers(x.way(0));
                Edge.eq("squares of " + x.way(0), way[0] * way[0] + way[1] * way[1], number);
                Edge.eq("greater than 0 of " + x.way(0), way[0] > way[1] && way[1] > 0, true);
                x.settle(0);
                Edge.eq("A and B", x.splitNumber(0, 3) + " " + x.splitNumber(0, 4), x.way(0));
            }
        }

        Edge.sentence(Edge.DESCRIPTION, "The WAY of P is A and B, as they are when a SPLIT that was begun with P comes to be SETTLED for the first time.");
        Edge.eq("of 5", Edge.splitOf(5).way(0), "2 1");
        Edge.eq("of 17", Edge.splitOf(17).way(0), "4 1");
        Edge.eq("of 677", Edge.splitOf(677).way(0), "26 1");
        Edge.eq("of 997", Edge.splitOf(997).way(0), "31 6");
        Rootwalk x = Edge.splitOf(233);
        Edge.eq("not started", x.way(0), "13 8");
        for (int step = 1; step <= 11; step++) {
            x.euclid(0);
            Edge.eq("behind step " + step, x.way(0), "13 8");
        }
    }

    // ---- the acts

    private static void split() {
        Edge.index(37, SPLIT, (x, split) -> x.split(split, 13));
        Edge.range(37, "Throws `IllegalArgumentException` if number is not 5 to 997", 5, 997, (x, number) -> x.split(2, number));

        Edge.sentence(37, "Returns its WITNESS; -9 if it is not SPLITTABLE.");
        Rootwalk x = Edge.splitOf(29);
        Edge.isDone("the least one", x, 2, y -> y.split(0, 5), 2);
        Edge.isDone("the least one again", x, 2, y -> y.split(0, 5), 2);
        Edge.isDone("the greatest one", x, 2, y -> y.split(1, 997), 2);
        Edge.isDone("a WITNESS of 7", x, 2, y -> y.split(2, 769), 7);
        x.euclid(2);
        int[] refused = {6, 7, 8, 9, 11, 21, 25, 841, 961, 983, 991, 992, 993, 994, 995, 996};
        for (int number : refused) {
            Edge.tellsMinusNine("" + number, Edge.busy(), y -> y.split(2, number));
        }
        Edge.tellsMinusNine("even where it stays begun with 769", x, y -> y.split(2, 996));
        Edge.eq("it goes on", Edge.split(x, 2), "769 7 707 707 62 1 -1 1");
    }

    private static void euclid() {
        Edge.index(38, SPLIT, (x, split) -> x.euclid(split));

        Edge.sentence(38, "Returns its B then; -9 if B is 0 (ahead of the step).");
        Rootwalk x = Edge.splitOf(997);
        int[] due = {31, 6, 1, 0};
        for (int b : due) {
            Edge.isDone("of 997", x, 2, y -> y.euclid(0), b);
        }
        Edge.tellsMinusNine("with B = 0", x, y -> y.euclid(0));
        Edge.tellsMinusNine("with B = 0 again", x, y -> y.euclid(0));
        x.split(0, 997);
        Edge.isDone("begun again", x, 2, y -> y.euclid(0), 31);
    }

    private static void settle() {
        Edge.index(39, SPLIT, (x, split) -> x.settle(split));

        Edge.sentence(39, "Returns how many steps were made now; 0 if it was SETTLED (this is an ACT that is done, too).");
        Rootwalk x = new Rootwalk();
        Edge.isDone("of 5", x, 2, y -> y.settle(0), 1);
        Edge.isDone("of 5 again", x, 2, y -> y.settle(0), 0);
        Edge.eq("it stays", Edge.split(x, 0), "5 2 2 2 1 1 -2 1");
        x.euclid(0);
        Edge.isDone("with B = 0", x, 2, y -> y.settle(0), 0);
        Edge.eq("it stays then", Edge.split(x, 0), "5 2 2 1 0 -2 5 2");
        for (int steps = 0; steps <= 11; steps++) {
            Rootwalk y = Edge.splitOf(233);
            for (int step = 0; step < steps; step++) {
                y.euclid(0);
            }
            Edge.isDone("of 233 behind " + steps + " steps", y, 2, z -> z.settle(0), Math.max(0, 6 - steps));
            Edge.eq("the steps that are counted", y.splitNumber(0, 7), Math.max(6, steps));
        }
    }

    // ---- the questions

    private static void splitNumber() {
        Edge.index(40, SPLIT, (x, split) -> x.splitNumber(split, 7));
        Edge.range(40, "Throws `IllegalArgumentException` if what is not 0 to 7", 0, 7, (x, what) -> x.splitNumber(0, what));

        Edge.sentence(40, "0 its P, 1 the WITNESS of P, 2 the IMAGINARY of P, 3 A, 4 B, 5 U, 6 V, 7 how many steps are counted");
        Rootwalk x = Edge.splitOf(769);
        Edge.eq("begun", Edge.split(x, 0), "769 7 707 769 707 0 1 0");
        x.settle(0);
        Edge.eq("SETTLED", Edge.split(x, 0), "769 7 707 25 12 12 -25 3");
        x.euclid(0);
        x.euclid(0);
        Edge.eq("behind the last step", Edge.split(x, 0), "769 7 707 1 0 62 -769 5");
    }

    private static void way() {
        Edge.index(41, SPLIT, (x, split) -> x.way(split));

        Edge.sentence(41, "Returns the WAY of its P, however many steps it made: the greater number, \" \", the lesser one.");
        Rootwalk x = Edge.splitOf(29);
        Edge.eq("no step", x.way(0), "5 2");
        Edge.eq("it makes none", Edge.split(x, 0), "29 2 12 29 12 0 1 0");
        x.settle(0);
        Edge.eq("SETTLED", x.way(0), "5 2");
        x.euclid(0);
        x.euclid(0);
        Edge.eq("behind the last step", x.way(0), "5 2");
        Edge.eq("it undoes none", Edge.split(x, 0), "29 2 12 1 0 -12 29 4");
    }

    private static void product() {
        Edge.index(42, ONE_OR_OTHER, (x, one) -> x.product(one, 0));
        Edge.index(42, ONE_OR_OTHER, (x, other) -> x.product(0, other));

        Edge.sentence(42, "the second SPLIT, or the same");
        Rootwalk x = Edge.splitOf(997);
        Edge.eq("997 with itself", x.product(0, 0), "997 0 925 372");
        Edge.eq("5 with itself", x.product(1, 1), "5 0 3 4");
        Edge.eq("5 with another 5", x.product(1, 2), "5 0 3 4");

        Edge.sentence(42, "Returns a * c + b * d, |a * d - b * c|, |a * c - b * d|, a * d + b * c, in this sequence, with \" \" between"
            + " (the first two are one way in which the product of both numbers P is a sum of two squares, the last two the other one).");
        Edge.eq("997 and 5", x.product(0, 1), "68 19 56 43");
        Edge.eq("5 and 997", x.product(1, 0), "68 19 56 43");
        x.settle(0);
        x.euclid(0);
        Edge.eq("behind some steps", x.product(0, 1), "68 19 56 43");
        for (int number : new int[] {5, 13, 17, 677, 977, 997}) {
            x.split(2, number);
            int[] sides = numbers(x.product(0, 2));
            Edge.eq("one way of 997 * " + number, sides[0] * sides[0] + sides[1] * sides[1], 997 * number);
            Edge.eq("the other way of 997 * " + number, sides[2] * sides[2] + sides[3] * sides[3], 997 * number);
        }
    }

    private static void symbol() {
        Edge.index(43, SPLIT, (x, split) -> x.symbol(split, 2));
        Edge.range(43, NUMBER, -999, 999, (x, number) -> x.symbol(2, number));

        Edge.sentence(43, "Returns 0 if it is a multiple of P; otherwise 1 if number^((P - 1) / 2) has the rest 1 by P, -1 if the rest is P - 1"
            + " (it is one of both; 1 just if a square has the same rest by P as the number).");
        int[] numbers = {-999, -998, -997, -996, -1, 0, 1, 2, 996, 997, 998, 999};
        int[] due = {-1, 1, 0, 1, 1, 0, 1, -1, 1, 0, 1, -1};
        Rootwalk x = Edge.splitOf(997);
        for (int i = 0; i < numbers.length; i++) {
            Edge.eq(numbers[i] + " by 997", x.symbol(0, numbers[i]), due[i]);
        }
        int[] dueByFive = {0, 1, -1, -1, 1};
        for (int number = -20; number <= 20; number++) {
            Edge.eq(number + " by 5", x.symbol(1, number), dueByFive[Math.floorMod(number, 5)]);
        }
        Edge.eq("995 and -995 by 5", x.symbol(1, 995) + " " + x.symbol(1, -995), "0 0");
    }

    private static void inverse() {
        Edge.index(44, SPLIT, (x, split) -> x.inverse(split, 2));
        Edge.range(44, NUMBER, -999, 999, (x, number) -> x.inverse(2, number));

        Edge.sentence(44, "Returns the v of 1 to P - 1 for which number * v has the rest 1 by P; 0 if the number is a multiple of P.");
        int[] numbers = {-999, -998, -997, -996, -1, 0, 1, 2, 996, 997, 998, 999};
        int[] due = {498, 996, 0, 1, 996, 0, 1, 499, 996, 0, 1, 499};
        Rootwalk x = Edge.splitOf(997);
        for (int i = 0; i < numbers.length; i++) {
            Edge.eq(numbers[i] + " by 997", x.inverse(0, numbers[i]), due[i]);
        }
        int[] dueByFive = {0, 1, 3, 2, 4};
        for (int number = -20; number <= 20; number++) {
            Edge.eq(number + " by 5", x.inverse(1, number), dueByFive[Math.floorMod(number, 5)]);
        }
        Edge.eq("995 and -995 by 5", x.inverse(1, 995) + " " + x.inverse(1, -995), "0 0");
    }

    private static void isPrime() {
        Edge.range(45, "Throws `IllegalArgumentException` if number is not 0 to 999", 0, 999, (x, number) -> x.isPrime(number));

        Edge.sentence(45, "Returns whether it is a prime (0 and 1 are none).");
        Rootwalk x = new Rootwalk();
        Edge.eq("0", x.isPrime(0), false);
        Edge.eq("1", x.isPrime(1), false);
        Edge.eq("2", x.isPrime(2), true);
        Edge.eq("the greatest ones", x.isPrime(997) + " " + x.isPrime(998) + " " + x.isPrime(999), "true false false");
        for (int root = 2; root <= 31; root++) {
            Edge.eq(root + " * " + root, x.isPrime(root * root), false);
        }
        for (int number = 0; number <= 999; number++) {
            Edge.eq("" + number, new Rootwalk().isPrime(number), hasNoDivisor(number));
        }
    }
}
