import java.math.BigInteger;

/** The edges of the Description's "5. Acts and refusals", of the promises 1 and 46 to 49, and of the 512 calls. */
final class WholeEdges {
    private static final Class<?> INDEX = IndexOutOfBoundsException.class;
    private static final Class<?> ARGUMENT = IllegalArgumentException.class;

    private WholeEdges() {
    }

    static void all() {
        newObject();
        actsOfWalks();
        actsOfPairs();
        actsOfSplits();
        knocksAreNoActs();
        refusedActs();
        answersOfMinusNine();
        thrownActs();
        firstNamedException();
        exceptionsAheadOfMinusNine();
        texts();
        radixes();
        house();
        knock();
        isSound();
        digestInSequence();
        digestWrapsAround();
        manyCalls();
    }

    private static void newObject() {
        Edge.sentence(1, "Creates three WALKS, three PAIRS and three SPLITS, as they are told to be at first.");
        String each = "2 at 0; 2: 1, 0; 5 2 2 5 2 0 1 0; ";
        String fresh = each + each + each + "ACTS 0 0 0, knocks 0, -9 told 0";
        Rootwalk x = new Rootwalk();
        Edge.eq("the first one", Edge.state(x), fresh);
        Edge.busy();
        Edge.eq("one behind a busy one", Edge.state(new Rootwalk()), fresh);
        Edge.eq("the first one still", Edge.state(x), fresh);
    }

    // ---- 5. Acts and refusals

    private static void actsOfWalks() {
        Edge.sentence(Edge.DESCRIPTION, "What changes something is an ACT: open, forth, back, walkCopy of WALKS;");
        Rootwalk x = new Rootwalk();
        Edge.isDone("open", x, 0, y -> y.open(0, 3), 1);
        Edge.isDone("forth", x, 0, y -> y.forth(0, 2), 2);
        Edge.isDone("back", x, 0, y -> y.back(0), 1);
        Edge.isDone("walkCopy", x, 0, y -> y.walkCopy(0, 1), 1);
        Edge.isDone("walkCopy of the same", x, 0, y -> y.walkCopy(0, 1), 0);
    }

    private static void actsOfPairs() {
        Edge.sentence(Edge.DESCRIPTION, "put, take, least, compose, power, mirror, divideBy, pairCopy of PAIRS;");
        Rootwalk x = new Rootwalk();
        Edge.isDone("put", x, 1, y -> y.put(0, 2, 4, 2), 1);
        Edge.isDone("divideBy", x, 1, y -> y.divideBy(0, 2), 1);
        Edge.isDone("mirror", x, 1, y -> y.mirror(0, false), 1);
        Edge.isDone("power", x, 1, y -> y.power(0, 2), 1);
        Edge.isDone("compose", x, 1, y -> y.compose(0, 0, 1), 1);
        Edge.isDone("pairCopy", x, 1, y -> y.pairCopy(0, 1), 1);
        Edge.isDone("least", x, 1, y -> y.least(0, 2), 1);
        Edge.isDone("take", x, 1, y -> y.take(0, 2), 1);
        Edge.isDone("put of the SAME", x, 1, y -> y.put(2, 2, 1, 1), 0);
        Edge.isDone("divideBy 1", x, 1, y -> y.divideBy(0, 1), 0);
        Edge.isDone("power 1", x, 1, y -> y.power(0, 1), 0);
        Edge.isDone("pairCopy of itself", x, 1, y -> y.pairCopy(0, 0), 0);
        Edge.isDone("least of the SAME", x, 1, y -> y.least(0, 2), 0);
        Edge.isDone("take of the SAME", x, 1, y -> y.take(0, 2), 0);
        x.put(0, 2, 1, 0);
        Edge.isDone("mirror of 0", x, 1, y -> y.mirror(0, false), 0);
        Edge.isDone("compose of the SAME", x, 1, y -> y.compose(0, 0, 0), 0);
    }

    private static void actsOfSplits() {
        Edge.sentence(Edge.DESCRIPTION, "split, euclid, settle of SPLITS.");
        Rootwalk x = new Rootwalk();
        Edge.isDone("split", x, 2, y -> y.split(0, 13), 2);
        Edge.isDone("euclid", x, 2, y -> y.euclid(0), 5);
        Edge.isDone("settle", x, 2, y -> y.settle(0), 2);
        Edge.isDone("settle without a step", x, 2, y -> y.settle(0), 0);
        Edge.isDone("split of the same", x, 2, y -> y.split(1, 5), 2);
    }

    private static void knocksAreNoActs() {
        Edge.sentence(Edge.DESCRIPTION, "knock() is none of these.");
        Rootwalk x = Edge.busy();
        String acts = x.house(0) + " " + x.house(1) + " " + x.house(2) + " " + x.house(3);
        x.knock();
        Edge.eq("the ACTS", x.house(0) + " " + x.house(1) + " " + x.house(2) + " " + x.house(3), acts);
    }

    private static void refusedActs() {
        Edge.sentence(Edge.DESCRIPTION, "-9 is told by an ACT that is let, but cannot be done, as told there; nothing but the count of these is changed then.");
        Edge.tellsMinusNine("forth", full(), x -> x.forth(2, 1));
        Edge.tellsMinusNine("back", full(), x -> x.back(1));
        Edge.tellsMinusNine("take", full(), x -> x.take(2, 0));
        Edge.tellsMinusNine("compose of unlike BASES", full(), x -> x.compose(0, 1, 1));
        Edge.tellsMinusNine("compose of long ones", full(), x -> x.compose(2, 2, 0));
        Edge.tellsMinusNine("power", full(), x -> x.power(2, 5));
        Edge.tellsMinusNine("divideBy 0", full(), x -> x.divideBy(0, 0));
        Edge.tellsMinusNine("divideBy 99", full(), x -> x.divideBy(1, 99));
        Edge.tellsMinusNine("split", full(), x -> x.split(2, 996));
        Edge.tellsMinusNine("euclid", full(), x -> x.euclid(0));

        Rootwalk each = full();
        int before = each.house(3);
        each.forth(2, 1);
        each.back(1);
        each.take(2, 0);
        each.compose(0, 1, 1);
        each.power(2, 5);
        each.divideBy(0, 0);
        each.split(2, 996);
        each.euclid(0);
        Edge.eq("each kind of them", each.house(3), before + 8);
    }

    /** A busy one with a WALK that is too long to be taken, and a PAIR that is too long for a PRODUCT. */
    private static Rootwalk full() {
        Rootwalk x = Edge.busy();
        x.open(2, 82);
        Edge.go(x, 2, 24);
        x.put(1, 2, 7, 100);
        x.pairCopy(0, 2);
        x.power(2, 2);
        return x;
    }

    private static void answersOfMinusNine() {
        Edge.sentence(Edge.DESCRIPTION, "(A question may tell -9, too, as any other number; that counts nowhere.)");
        Rootwalk x = Edge.walkAt(34, 0);
        x.split(0, 41);
        x.euclid(0);
        x.euclid(0);
        x.euclid(0);
        x.put(0, 2, 3, 3);
        String before = Edge.state(x);
        Edge.eq("a NORM", x.test(0, 2), -9);
        Edge.eq("V", x.splitNumber(0, 6), -9);
        Edge.eq("a NORM as text", x.pairNorm(0), "-9");
        Edge.eq("all", Edge.state(x), before);
        x.euclid(0);
        Edge.eq("U", x.splitNumber(0, 5), -9);
        Edge.eq("the count", x.house(3), 0);
    }

    private static void thrownActs() {
        Edge.sentence(Edge.DESCRIPTION, "A method that throws an exception changes nothing, and counts nowhere.");
        Edge.refuses(ARGUMENT, "open", Edge.busy(), x -> x.open(0, 81));
        Edge.refuses(ARGUMENT, "forth", Edge.busy(), x -> x.forth(1, 7));
        Edge.refuses(INDEX, "back", Edge.busy(), x -> x.back(3));
        Edge.refuses(INDEX, "walkCopy", Edge.busy(), x -> x.walkCopy(0, 3));
        Edge.refuses(ARGUMENT, "put", Edge.busy(), x -> x.put(0, 2, 3, 1001));
        Edge.refuses(INDEX, "take", Edge.busy(), x -> x.take(0, 3));
        Edge.refuses(ARGUMENT, "least", Edge.busy(), x -> x.least(0, 100));
        Edge.refuses(INDEX, "compose", Edge.busy(), x -> x.compose(0, 1, 3));
        Edge.refuses(ARGUMENT, "power", Edge.busy(), x -> x.power(1, 6));
        Edge.refuses(INDEX, "mirror", Edge.busy(), x -> x.mirror(-1, true));
        Edge.refuses(ARGUMENT, "divideBy", Edge.busy(), x -> x.divideBy(0, 100));
        Edge.refuses(INDEX, "pairCopy", Edge.busy(), x -> x.pairCopy(0, -1));
        Edge.refuses(ARGUMENT, "split", Edge.busy(), x -> x.split(0, 998));
        Edge.refuses(INDEX, "euclid", Edge.busy(), x -> x.euclid(3));
        Edge.refuses(INDEX, "settle", Edge.busy(), x -> x.settle(-1));
    }

    private static void firstNamedException() {
        Edge.sentence(Edge.DESCRIPTION, "If several exceptions apply, the one that is named first is thrown;");
        for (int walk : new int[] {-1, 3}) {
            Edge.refuses(INDEX, "open", Edge.busy(), x -> x.open(walk, 4));
            Edge.refuses(INDEX, "forth", Edge.busy(), x -> x.forth(walk, 0));
            Edge.refuses(INDEX, "part", Edge.busy(), x -> x.part(walk, 6));
            Edge.refuses(INDEX, "walkText", Edge.busy(), x -> x.walkText(walk, 4, 17));
            Edge.refuses(INDEX, "test", Edge.busy(), x -> x.test(walk, 3));
            Edge.refuses(INDEX, "walkBits", Edge.busy(), x -> x.walkBits(walk, true, 3));
            Edge.refuses(INDEX, "bit", Edge.busy(), x -> x.bit(walk, true, 120));
            Edge.refuses(INDEX, "isRead", Edge.busy(), x -> x.isRead(walk, 1));
            Edge.refuses(INDEX, "isNear", Edge.busy(), x -> x.isNear(walk, 4));
            Edge.refuses(INDEX, "decimals", Edge.busy(), x -> x.decimals(walk, 17));
        }
        for (int pair : new int[] {-1, 3}) {
            Edge.refuses(INDEX, "put", Edge.busy(), x -> x.put(pair, 4, 1001, 1001));
            Edge.refuses(INDEX, "least", Edge.busy(), x -> x.least(pair, 100));
            Edge.refuses(INDEX, "power", Edge.busy(), x -> x.power(pair, -1));
            Edge.refuses(INDEX, "divideBy", Edge.busy(), x -> x.divideBy(pair, -100));
            Edge.refuses(INDEX, "pairBits", Edge.busy(), x -> x.pairBits(pair, true, 3));
        }
        for (int split : new int[] {-1, 3}) {
            Edge.refuses(INDEX, "split", Edge.busy(), x -> x.split(split, 4));
            Edge.refuses(INDEX, "splitNumber", Edge.busy(), x -> x.splitNumber(split, 8));
            Edge.refuses(INDEX, "symbol", Edge.busy(), x -> x.symbol(split, 1000));
            Edge.refuses(INDEX, "inverse", Edge.busy(), x -> x.inverse(split, -1000));
        }
    }

    private static void exceptionsAheadOfMinusNine() {
        Edge.sentence(Edge.DESCRIPTION, "exceptions go ahead of -9.");
        Edge.refuses(ARGUMENT, "forth behind 24", full(), x -> x.forth(2, 7));
        Edge.refuses(INDEX, "back at 0", full(), x -> x.back(3));
        Edge.refuses(INDEX, "take of a long TOP", full(), x -> x.take(2, 3));
        Edge.refuses(INDEX, "compose of unlike BASES", full(), x -> x.compose(0, 1, 3));
        Edge.refuses(INDEX, "compose of long ones", full(), x -> x.compose(2, 2, -1));
        Edge.refuses(ARGUMENT, "power of a long one", full(), x -> x.power(2, 6));
        Edge.refuses(ARGUMENT, "divideBy, no multiple", full(), x -> x.divideBy(1, 100));
        Edge.refuses(INDEX, "divideBy 0", full(), x -> x.divideBy(3, 0));
        Edge.refuses(INDEX, "split, not SPLITTABLE", full(), x -> x.split(3, 6));
        Edge.refuses(ARGUMENT, "split, out of range and not SPLITTABLE", full(), x -> x.split(0, 1000));
        Edge.refuses(INDEX, "euclid with B = 0", full(), x -> x.euclid(-1));
    }

    private static void texts() {
        Edge.sentence(Edge.DESCRIPTION, "Texts of numbers: by ten digits, if no RADIX is told, without zeros ahead of the first digit that is not 0; 0 is \"0\";"
            + " one below 0 has \"-\" ahead.");
        int[] numbers = {0, 1, -1, 9, 10, -10, 99, 100, 101, -1000, 1000};
        for (int number : numbers) {
            Edge.eq("LEFT", Edge.pairOf(2, number, 0).pairText(0, true), Integer.toString(number));
            Edge.eq("RIGHT", Edge.pairOf(2, 0, number).pairText(0, false), Integer.toString(number));
        }
        Rootwalk zero = Edge.pairOf(2, 0, 0);
        zero.mirror(0, true);
        Edge.eq("0 mirrored", Edge.pair(zero, 0), "2: 0, 0");
        zero.divideBy(0, -1);
        Edge.eq("0 by -1", Edge.pair(zero, 0), "2: 0, 0");
        zero.put(1, 2, -1, -1);
        zero.compose(0, 1, 1);
        Edge.eq("0 times -1", Edge.pair(zero, 1), "2: 0, 0");
        Rootwalk x = Edge.leftOf(2, 100, 100, 100, 100, 100, 100, 100, 100, 100, 100, 100);
        Edge.eq("10^22", x.pairText(0, true), "10000000000000000000000");
        Edge.eq("10^44", x.pairNorm(0), "100000000000000000000000000000000000000000000");
        Edge.eq("root and decimals", x.rootText(1, 2) + " " + x.decimals(0, 1), "100 10");
    }

    private static void radixes() {
        Edge.sentence(Edge.DESCRIPTION, "A RADIX is 2 to 16; its digits above 9 are a to f.");
        Rootwalk[] at = {
            Edge.walkAt(11, 1), Edge.walkAt(13, 3), Edge.walkAt(37, 1), Edge.walkAt(19, 2), Edge.walkAt(8, 2), Edge.walkAt(14, 3)
        };
        for (int i = 0; i < at.length; i++) {
            int number = 10 + i;
            int which = number == 12 ? 1 : 0;
            Edge.eq("it is " + number, at[i].walkText(0, which, 10), "1" + i);
            Edge.eq(number + " by the next RADIX", at[i].walkText(0, which, number + 1), "" + (char) ('a' + i));
            Edge.eq(number + " by 16", at[i].walkText(0, which, 16), "" + (char) ('a' + i));
            Edge.eq(number + " by itself", at[i].walkText(0, which, number), "10");
        }
        Edge.eq("9 by 16, by 10 and by 9", Edge.walkAt(82, 0).walkText(0, 0, 16) + " " + Edge.walkAt(82, 0).walkText(0, 0, 10)
            + " " + Edge.walkAt(82, 0).walkText(0, 0, 9), "9 9 10");
    }

    // ---- the whole

    private static void house() {
        Edge.range(46, "Throws `IllegalArgumentException` if what is not 0 to 4", 0, 4, (x, what) -> x.house(what));

        Edge.sentence(46, "(also if all stays as it was; one that told -9 by a refusal, or threw, is none; take counts on PAIRS alone)");
        Rootwalk x = new Rootwalk();
        Edge.eq("at first", houses(x), "0 0 0 0 0");
        x.open(0, 2);
        x.walkCopy(1, 1);
        x.put(0, 2, 1, 0);
        x.settle(0);
        x.settle(0);
        Edge.eq("ACTS that left all as it was", houses(x), "2 1 2 0 0");
        x.back(0);
        x.compose(0, 0, 0);
        x.divideBy(0, 0);
        x.split(0, 6);
        Edge.eq("refusals", houses(x), "2 2 2 3 0");
        Edge.answer(y -> y.open(0, 4), x);
        Edge.answer(y -> y.put(3, 2, 1, 0), x);
        Edge.answer(y -> y.settle(3), x);
        Edge.answer(y -> y.house(5), x);
        Edge.eq("throws", houses(x), "2 2 2 3 0");
        x.take(0, 0);
        Edge.eq("take", houses(x), "2 3 2 3 0");
        x.open(0, 82);
        Edge.go(x, 0, 24);
        x.take(0, 0);
        Edge.eq("take refused", houses(x), "7 3 2 4 0");
    }

    private static String houses(Rootwalk x) {
        return x.house(0) + " " + x.house(1) + " " + x.house(2) + " " + x.house(3) + " " + x.house(4);
    }

    private static void knock() {
        Edge.sentence(47, "Returns how often one knocked, with this.");
        Rootwalk x = new Rootwalk();
        Edge.eq("none yet", x.house(4), 0);
        Edge.eq("the first ones", x.knock() + " " + x.knock() + " " + x.house(4), "1 2 2");
        Edge.eq("another object's first one", new Rootwalk().knock(), 1);
    }

    private static void isSound() {
        Edge.sentence(48, "Returns whether all of this is so (always): of each WALK at its STEP k: M(k) is 0 to ROOT and D(k) is 1 to twice the ROOT;"
            + " TOP and BOTTOM have the greatest common divisor 1; CROSS is 1 if k is odd, otherwise -1; the NORM of TOP and BOTTOM is D(k + 1)"
            + " if k is odd, otherwise -D(k + 1); of each PAIR: LEFT and RIGHT have at most 80 BITS, and its NORM is 0 just if LEFT and RIGHT are 0;"
            + " of each SPLIT: A * A + U * U is a multiple of P, and so is i * i + 1; A * |V| + B * |U| is P.");
        Edge.eq("of a new one", new Rootwalk().isSound(), true);
        Edge.eq("of a busy one", Edge.busy().isSound(), true);
        for (int base = 2; base <= 99; base++) {
            if (!Edge.isSquare(base)) {
                Edge.eq("at both ends of " + base, soundAtTheEnds(base), "true true true true");
                factsOfWalks(base);
            }
        }
        Rootwalk x = new Rootwalk();
        for (int number = 5; number <= 997; number += 4) {
            if (x.isPrime(number)) {
                Rootwalk y = Edge.splitOf(number);
                boolean isSound = y.isSound();
                for (int step = 0; step < 12; step++) {
                    y.euclid(0);
                    isSound = isSound && y.isSound() && areFactsOfSplit(y);
                }
                Edge.eq("at each step of " + number, isSound, true);
            }
        }
        Rootwalk wide = Edge.twoTo(79);
        wide.put(1, 2, -1, 1);
        wide.compose(0, 1, 1);
        wide.put(2, 99, 0, 0);
        Edge.eq("with 80 BITS, and with 0 and 0", wide.isSound(), true);
    }

    /** What isSound() is about, asked by the other questions. */
    private static void factsOfWalks(int base) {
        for (int step = 0; step < 24; step++) {
            Rootwalk x = Edge.walkAt(base, step);
            int root = x.part(0, 2);
            Edge.eq("M of " + Edge.walk(x, 0), x.part(0, 3) >= 0 && x.part(0, 3) <= root, true);
            Edge.eq("D of " + Edge.walk(x, 0), x.part(0, 4) >= 1 && x.part(0, 4) <= 2 * root, true);
            int sign = step % 2 == 1 ? 1 : -1;
            int next = Edge.walkAt(base, step + 1).part(0, 4);
            Edge.eq("tests of " + Edge.walk(x, 0), x.test(0, 0) + " " + x.test(0, 1) + " " + x.test(0, 2), "1 " + sign + " " + sign * next);
        }
    }

    private static boolean areFactsOfSplit(Rootwalk x) {
        int prime = x.splitNumber(0, 0);
        int imaginary = x.splitNumber(0, 2);
        int a = x.splitNumber(0, 3);
        int b = x.splitNumber(0, 4);
        int u = x.splitNumber(0, 5);
        int v = x.splitNumber(0, 6);
        return (a * a + u * u) % prime == 0 && (imaginary * imaginary + 1) % prime == 0 && a * Math.abs(v) + b * Math.abs(u) == prime;
    }

    private static String soundAtTheEnds(int base) {
        Rootwalk x = Edge.pairOf(base, 0, 0);
        x.open(2, base);
        boolean atFirst = x.isSound();
        x.forth(2, 1);
        boolean odd = x.isSound();
        Edge.go(x, 2, 22);
        boolean nearTheEnd = x.isSound();
        x.forth(2, 1);
        return atFirst + " " + odd + " " + nearTheEnd + " " + x.isSound();
    }

    private static void digestInSequence() {
        Edge.sentence(49, "A number d starts with 7685; then d becomes d * 31 + v");
        Edge.eq("of a new one", new Rootwalk().digest(), dueDigest(new Rootwalk()));
        Edge.eq("of a busy one", Edge.busy().digest(), dueDigest(Edge.busy()));
        Rootwalk x = Edge.busy();
        long first = x.digest();
        Edge.eq("it changes nothing", x.digest(), first);
        x.knock();
        Edge.eq("a knock counts", x.digest(), first + 31);
        x.back(1);
        Edge.eq("a -9 counts", x.digest(), first + 31 + 31 * 31);
        Rootwalk z = new Rootwalk();
        z.back(0);
        z.settle(0);
        z.settle(0);
        z.mirror(0, false);
        z.walkCopy(0, 0);
        z.knock();
        Edge.eq("each house counts", z.digest(), dueDigest(z));
    }

    private static void digestWrapsAround() {
        Edge.sentence(49, "which wraps around as a 64-bit integer (a v that is longer wraps around in the same way)");
        Rootwalk x = Edge.walkAt(82, 24);
        x.walkCopy(0, 2);
        Edge.eq("of long TOPS and BOTTOMS", x.digest(), dueDigest(x));
        for (int many : new int[] {55, 56, 57, 62, 63, 64, 65, 79}) {
            Rootwalk z = Edge.twoTo(many);
            Edge.eq("with 2^" + many, z.digest(), dueDigest(z));
            z.put(1, 2, -1, 1);
            z.compose(0, 1, 1);
            Edge.eq("with -2^" + many, z.digest(), dueDigest(z));
        }
        Rootwalk least = Edge.pairOf(97, 1, 0);
        least.least(0, 97);
        least.power(0, 3);
        least.mirror(0, true);
        Edge.eq("of 80 BITS below 0", least.digest(), dueDigest(least));
    }

    /** The checksum from what the questions answer, without a wrap-around until the end. */
    private static long dueDigest(Rootwalk x) {
        BigInteger d = BigInteger.valueOf(7685);
        for (int walk = 0; walk <= 2; walk++) {
            for (int what = 0; what <= 5; what++) {
                d = mix(d, "" + x.part(walk, what));
            }
            for (int which = 0; which <= 3; which++) {
                d = mix(d, x.walkText(walk, which, 10));
            }
            d = mix(mix(d, "" + x.test(walk, 1)), "" + x.test(walk, 2));
        }
        for (int pair = 0; pair <= 2; pair++) {
            d = mix(mix(mix(d, "" + x.pairBase(pair)), x.pairText(pair, true)), x.pairText(pair, false));
            d = mix(mix(d, "" + x.pairBits(pair, true, 0)), "" + x.pairBits(pair, false, 0));
        }
        for (int split = 0; split <= 2; split++) {
            for (int what = 0; what <= 7; what++) {
                d = mix(d, "" + x.splitNumber(split, what));
            }
        }
        for (int what = 0; what <= 4; what++) {
            d = mix(d, "" + x.house(what));
        }
        return mix(d, x.isSound() ? "1" : "0").longValue();
    }

    private static BigInteger mix(BigInteger d, String v) {
        return d.multiply(BigInteger.valueOf(31)).add(new BigInteger(v));
    }

    private static void manyCalls() {
        // of the document's head, which is no promise: so no sentence is told
        Rootwalk x = new Rootwalk();
        for (int call = 1; call < 512; call++) {
            Edge.eq("knock " + call, x.knock(), call);
        }
        Edge.eq("the 512th call", x.house(4), 511);
        Rootwalk full = new Rootwalk();
        for (int call = 1; call <= 510; call++) {
            full.put(0, 2 + call % 2, call, -call);
        }
        Edge.eq("the 511th call", full.house(1), 510);
        Edge.eq("the 512th call", full.pairText(0, false), "-510");
    }
}
