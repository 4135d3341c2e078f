import java.util.Arrays;

/**
 * Three walks along the continued fractions of roots, three pairs of whole numbers that are
 * multiplied over a base, and three primes that are split into two squares by Euclid's steps.
 */
public final class Rootwalk {
    private static final int REFUSED = -9;
    private static final int THINGS = 3;
    private static final int LEAST_BASE = 2;
    private static final int GREATEST_BASE = 99;
    private static final int LAST_STEP = 24;
    private static final int MOST_BITS = 80;
    private static final int MOST_PLACES = 16;
    private static final int MOST_RANK = 42;
    private static final int LEAST_PRIME = 5;
    private static final int GREATEST_PRIME = 997;
    private static final int GREATEST_REST = 999;
    private static final int EXPONENT_BITS = 10;
    private static final int TEN = 10;
    private static final long FIRST_DIGEST = 7685L;
    private static final long DIGEST_FACTOR = 31L;

    private final Walk[] walks = new Walk[THINGS];
    private final Pair[] pairs = new Pair[THINGS];
    private final Split[] splits = new Split[THINGS];

    private final Fraction fraction = new Fraction();
    private final Desk desk = new Desk();
    private final Pair draft = new Pair();
    private final Pair spare = new Pair();
    private final Pair solved = new Pair();
    private final Split runner = new Split();
    private final Split otherRunner = new Split();

    private int walkActs;
    private int pairActs;
    private int splitActs;
    private int refusals;
    private int knocks;

    public Rootwalk() {
        for (int i = 0; i < THINGS; i++) {
            walks[i] = new Walk();
            pairs[i] = new Pair();
            splits[i] = new Split();
        }
    }

    // ==== walks

    public int open(int walk, int base) throws IndexOutOfBoundsException, IllegalArgumentException {
        checkThing(walk);
        checkBase(base);
        walks[walk].base = base;
        walks[walk].step = 0;
        walkActs++;
        return rootOf(base);
    }

    public int forth(int walk, int many) throws IndexOutOfBoundsException, IllegalArgumentException {
        checkThing(walk);
        checkRange(many, 1, 6);
        Walk goer = walks[walk];
        if (goer.step + many > LAST_STEP) {
            return refuse();
        }
        goer.step += many;
        walkActs++;
        return goer.step;
    }

    public int back(int walk) throws IndexOutOfBoundsException {
        checkThing(walk);
        Walk goer = walks[walk];
        if (goer.step == 0) {
            return refuse();
        }
        goer.step--;
        walkActs++;
        return goer.step;
    }

    public int walkCopy(int walk, int into) throws IndexOutOfBoundsException {
        checkThing(walk);
        checkThing(into);
        Walk from = walks[walk];
        Walk to = walks[into];
        boolean isOther = to.base != from.base || to.step != from.step;
        to.base = from.base;
        to.step = from.step;
        walkActs++;
        return isOther ? 1 : 0;
    }

    public int part(int walk, int what) throws IndexOutOfBoundsException, IllegalArgumentException {
        checkThing(walk);
        checkRange(what, 0, 5);
        return walkPart(unfold(walk), what);
    }

    public String walkText(int walk, int which, int radix) throws IndexOutOfBoundsException, IllegalArgumentException {
        checkThing(walk);
        checkRange(which, 0, 3);
        checkRange(radix, 2, 16);
        return desk.text(walkNumber(unfold(walk), which), radix);
    }

    public int test(int walk, int what) throws IndexOutOfBoundsException, IllegalArgumentException {
        checkThing(walk);
        checkRange(what, 0, 2);
        return walkTest(unfold(walk), what);
    }

    public int walkBits(int walk, boolean isTop, int what) throws IndexOutOfBoundsException, IllegalArgumentException {
        checkThing(walk);
        checkRange(what, 0, 2);
        return countBits(walkNumber(unfold(walk), isTop ? 0 : 1), what);
    }

    public boolean bit(int walk, boolean isTop, int place) throws IndexOutOfBoundsException, IllegalArgumentException {
        checkThing(walk);
        checkRange(place, 0, 119);
        return walkNumber(unfold(walk), isTop ? 0 : 1).hasBit(place);
    }

    public boolean isRead(int walk, int radix) throws IndexOutOfBoundsException, IllegalArgumentException {
        checkThing(walk);
        if (radix != 0) {
            checkRange(radix, 2, 16);
        }
        Walk asked = unfold(walk);
        Whole top = fraction.top(asked.step);
        Whole bottom = fraction.bottom(asked.step);
        return radix == 0
            ? desk.isReadFromBytes(top) && desk.isReadFromBytes(bottom)
            : desk.areReadFromText(top, bottom, radix);
    }

    public boolean isNear(int walk, int times) throws IndexOutOfBoundsException, IllegalArgumentException {
        checkThing(walk);
        checkRange(times, 1, 3);
        Walk asked = unfold(walk);
        Whole next = fraction.bottom(asked.step + 1);
        return desk.isWithin(asked.base, fraction.top(asked.step), fraction.bottom(asked.step), next, times);
    }

    public String decimals(int walk, int places) throws IndexOutOfBoundsException, IllegalArgumentException {
        checkThing(walk);
        checkRange(places, 0, MOST_PLACES);
        return desk.longText(walkDecimals(unfold(walk), places));
    }

    public int alike(int walk) throws IndexOutOfBoundsException {
        checkThing(walk);
        Walk asked = unfold(walk);
        long ofWalk = walkDecimals(asked, MOST_PLACES);
        long ofRoot = rootDecimals(asked.base, MOST_PLACES);
        // a number rounded down to fewer places is the longer one without its last digits
        for (int places = MOST_PLACES; places >= 0; places--) {
            if (ofWalk == ofRoot) {
                return places;
            }
            ofWalk /= TEN;
            ofRoot /= TEN;
        }
        return -1;
    }

    // ==== bases

    public String rootText(int base, int places) throws IllegalArgumentException {
        checkRange(base, 1, GREATEST_BASE);
        checkRange(places, 0, MOST_PLACES);
        return desk.longText(rootDecimals(base, places));
    }

    public int period(int base) throws IllegalArgumentException {
        checkBase(base);
        fraction.expand(base);
        return fraction.turn();
    }

    public String periodText(int base) throws IllegalArgumentException {
        checkBase(base);
        fraction.expand(base);
        int turn = fraction.turn();
        StringBuilder out = new StringBuilder();
        out.append(fraction.partA(0));
        for (int k = 1; k <= turn; k++) {
            out.append(' ').append(fraction.partA(k));
        }
        return out.toString();
    }

    public String solution(int base, boolean isLeft) throws IllegalArgumentException {
        checkBase(base);
        fraction.expand(base);
        int step = fraction.solutionStep();
        return desk.text(isLeft ? fraction.top(step) : fraction.bottom(step), TEN);
    }

    public String minus(int base, boolean isLeft) throws IllegalArgumentException {
        checkBase(base);
        fraction.expand(base);
        if (!fraction.isTurnOdd()) {
            return "";
        }
        int step = fraction.turn() - 1;
        return desk.text(isLeft ? fraction.top(step) : fraction.bottom(step), TEN);
    }

    public String middle(int base) throws IllegalArgumentException {
        checkBase(base);
        fraction.expand(base);
        if (!fraction.isTurnOdd()) {
            return "";
        }
        int half = (fraction.turn() + 1) / 2;
        StringBuilder out = new StringBuilder();
        out.append(fraction.partM(half)).append(' ').append(fraction.partD(half));
        return out.toString();
    }

    // ==== pairs

    public int put(int pair, int base, int left, int right) throws IndexOutOfBoundsException, IllegalArgumentException {
        checkThing(pair);
        checkBase(base);
        checkRange(left, -1000, 1000);
        checkRange(right, -1000, 1000);
        draft.setNumbers(base, left, right);
        return becomeDraft(pairs[pair]);
    }

    public int take(int walk, int pair) throws IndexOutOfBoundsException {
        checkThing(walk);
        checkThing(pair);
        Walk from = unfold(walk);
        draft.setWholes(from.base, fraction.top(from.step), fraction.bottom(from.step));
        return becomeDraft(pairs[pair]);
    }

    public int least(int pair, int base) throws IndexOutOfBoundsException, IllegalArgumentException {
        checkThing(pair);
        checkBase(base);
        setSolution(draft, base);
        return becomeDraft(pairs[pair]);
    }

    public int compose(int one, int other, int into) throws IndexOutOfBoundsException {
        checkThing(one);
        checkThing(other);
        checkThing(into);
        if (pairs[one].base != pairs[other].base) {
            return refuse();
        }
        desk.multiply(pairs[one], pairs[other], draft);
        return becomeDraft(pairs[into]);
    }

    public int power(int pair, int exponent) throws IndexOutOfBoundsException, IllegalArgumentException {
        checkThing(pair);
        checkRange(exponent, 0, 5);
        draft.setNumbers(pairs[pair].base, 1, 0);
        for (int i = 0; i < exponent; i++) {
            multiplyDraft(pairs[pair]);
        }
        return becomeDraft(pairs[pair]);
    }

    public int mirror(int pair, boolean isBoth) throws IndexOutOfBoundsException {
        checkThing(pair);
        draft.setPair(pairs[pair]);
        draft.right.negate();
        if (isBoth) {
            draft.left.negate();
        }
        return becomeDraft(pairs[pair]);
    }

    public int divideBy(int pair, int by) throws IndexOutOfBoundsException, IllegalArgumentException {
        checkThing(pair);
        checkRange(by, -99, 99);
        if (by == 0) {
            return refuse();
        }
        draft.setPair(pairs[pair]);
        int size = by < 0 ? -by : by;
        int leftRest = draft.left.divideSmall(size);
        int rightRest = draft.right.divideSmall(size);
        if (leftRest != 0 || rightRest != 0) {
            return refuse();
        }
        if (by < 0) {
            draft.left.negate();
            draft.right.negate();
        }
        return becomeDraft(pairs[pair]);
    }

    public int pairCopy(int pair, int into) throws IndexOutOfBoundsException {
        checkThing(pair);
        checkThing(into);
        draft.setPair(pairs[pair]);
        return becomeDraft(pairs[into]);
    }

    public int pairBase(int pair) throws IndexOutOfBoundsException {
        checkThing(pair);
        return pairs[pair].base;
    }

    public String pairText(int pair, boolean isLeft) throws IndexOutOfBoundsException {
        checkThing(pair);
        return desk.text(pairs[pair].side(isLeft), TEN);
    }

    public String pairNorm(int pair) throws IndexOutOfBoundsException {
        checkThing(pair);
        return desk.text(desk.norm(pairs[pair].base, pairs[pair].left, pairs[pair].right), TEN);
    }

    public int pairBits(int pair, boolean isLeft, int what) throws IndexOutOfBoundsException, IllegalArgumentException {
        checkThing(pair);
        checkRange(what, 0, 2);
        return countBits(pairs[pair].side(isLeft), what);
    }

    public int rank(int pair) throws IndexOutOfBoundsException {
        checkThing(pair);
        Pair asked = pairs[pair];
        if (!desk.norm(asked.base, asked.left, asked.right).isOne()) {
            return -1;
        }
        setSolution(solved, asked.base);
        draft.setNumbers(asked.base, 1, 0);
        for (int j = 0; j <= MOST_RANK; j++) {
            if (draft.left.compareSize(asked.left) == 0 && draft.right.compareSize(asked.right) == 0) {
                return j;
            }
            multiplyDraft(solved);
        }
        return -1;
    }

    public int order(int one, int other, boolean isLeft) throws IndexOutOfBoundsException {
        checkThing(one);
        checkThing(other);
        return pairs[one].side(isLeft).compareValue(pairs[other].side(isLeft));
    }

    public boolean isSame(int one, int other) throws IndexOutOfBoundsException {
        checkThing(one);
        checkThing(other);
        return pairs[one].isLike(pairs[other]);
    }

    public String extreme(boolean isLeft, boolean isGreatest) {
        Whole found = pairs[0].side(isLeft);
        for (int i = 1; i < THINGS; i++) {
            Whole next = pairs[i].side(isLeft);
            int compared = next.compareValue(found);
            if (isGreatest ? compared > 0 : compared < 0) {
                found = next;
            }
        }
        return desk.text(found, TEN);
    }

    // ==== splits

    public int split(int split, int number) throws IndexOutOfBoundsException, IllegalArgumentException {
        checkThing(split);
        checkRange(number, LEAST_PRIME, GREATEST_PRIME);
        if (!isSplittable(number)) {
            return refuse();
        }
        splits[split].begin(number);
        splitActs++;
        return splits[split].witness;
    }

    public int euclid(int split) throws IndexOutOfBoundsException {
        checkThing(split);
        if (splits[split].b == 0) {
            return refuse();
        }
        splits[split].goOn();
        splitActs++;
        return splits[split].b;
    }

    public int settle(int split) throws IndexOutOfBoundsException {
        checkThing(split);
        splitActs++;
        return splits[split].goOnToSettled();
    }

    public int splitNumber(int split, int what) throws IndexOutOfBoundsException, IllegalArgumentException {
        checkThing(split);
        checkRange(what, 0, 7);
        return splits[split].number(what);
    }

    public String way(int split) throws IndexOutOfBoundsException {
        checkThing(split);
        runWay(runner, splits[split]);
        StringBuilder out = new StringBuilder();
        out.append(runner.a).append(' ').append(runner.b);
        return out.toString();
    }

    public String product(int one, int other) throws IndexOutOfBoundsException {
        checkThing(one);
        checkThing(other);
        runWay(runner, splits[one]);
        runWay(otherRunner, splits[other]);
        int a = runner.a;
        int b = runner.b;
        int c = otherRunner.a;
        int d = otherRunner.b;
        StringBuilder out = new StringBuilder();
        out.append(a * c + b * d).append(' ').append(Math.abs(a * d - b * c));
        out.append(' ').append(Math.abs(a * c - b * d)).append(' ').append(a * d + b * c);
        return out.toString();
    }

    public int symbol(int split, int number) throws IndexOutOfBoundsException, IllegalArgumentException {
        checkThing(split);
        checkRange(number, -GREATEST_REST, GREATEST_REST);
        int prime = splits[split].prime;
        if (rest(number, prime) == 0) {
            return 0;
        }
        return restOfPower(number, (prime - 1) / 2, prime) == 1 ? 1 : -1;
    }

    public int inverse(int split, int number) throws IndexOutOfBoundsException, IllegalArgumentException {
        checkThing(split);
        checkRange(number, -GREATEST_REST, GREATEST_REST);
        int prime = splits[split].prime;
        // Fermat: number^(P - 1) has the rest 1, so number^(P - 2) undoes the number; 0 stays 0
        return restOfPower(number, prime - 2, prime);
    }

    public boolean isPrime(int number) throws IllegalArgumentException {
        checkRange(number, 0, 999);
        return hasTwoDivisors(number);
    }

    // ==== the whole

    public int house(int what) throws IllegalArgumentException {
        checkRange(what, 0, 4);
        switch (what) {
            case 0:
                return walkActs;
            case 1:
                return pairActs;
            case 2:
                return splitActs;
            case 3:
                return refusals;
            default:
                return knocks;
        }
    }

    public int knock() {
        knocks++;
        return knocks;
    }

    public boolean isSound() {
        for (int i = 0; i < THINGS; i++) {
            if (!isWalkSound(unfold(i)) || !isPairSound(pairs[i]) || !splits[i].isSoundSplit()) {
                return false;
            }
        }
        return true;
    }

    public long digest() {
        long sum = FIRST_DIGEST;
        for (int i = 0; i < THINGS; i++) {
            sum = mixWalk(sum, unfold(i));
        }
        for (int i = 0; i < THINGS; i++) {
            sum = mixPair(sum, pairs[i]);
        }
        for (int i = 0; i < THINGS; i++) {
            for (int what = 0; what <= 7; what++) {
                sum = mix(sum, splits[i].number(what));
            }
        }
        for (int what = 0; what <= 4; what++) {
            sum = mix(sum, house(what));
        }
        return mix(sum, isSound() ? 1 : 0);
    }

    // ---- what a call is checked against

    private static void checkThing(int index) {
        if (index < 0 || index >= THINGS) {
            throw new IndexOutOfBoundsException("not 0 to 2");
        }
    }

    private static void checkRange(int value, int low, int high) {
        if (value < low || value > high) {
            throw new IllegalArgumentException("out of its range");
        }
    }

    private static void checkBase(int base) {
        checkRange(base, LEAST_BASE, GREATEST_BASE);
        int root = rootOf(base);
        if (root * root == base) {
            throw new IllegalArgumentException("a square is not a BASE");
        }
    }

    private int refuse() {
        refusals++;
        return REFUSED;
    }

    // ---- walks

    /** The WALK, with the Fraction turned to its BASE: the functions below count on that. */
    private Walk unfold(int walk) {
        fraction.expand(walks[walk].base);
        return walks[walk];
    }

    private int walkPart(Walk asked, int what) {
        switch (what) {
            case 0:
                return asked.base;
            case 1:
                return asked.step;
            case 2:
                return fraction.root;
            case 3:
                return fraction.partM(asked.step);
            case 4:
                return fraction.partD(asked.step);
            default:
                return fraction.partA(asked.step);
        }
    }

    private Whole walkNumber(Walk asked, int which) {
        switch (which) {
            case 0:
                return fraction.top(asked.step);
            case 1:
                return fraction.bottom(asked.step);
            case 2:
                return fraction.top(asked.step - 1);
            default:
                return fraction.bottom(asked.step - 1);
        }
    }

    private int walkTest(Walk asked, int what) {
        Whole top = fraction.top(asked.step);
        Whole bottom = fraction.bottom(asked.step);
        switch (what) {
            case 0:
                return (int) desk.divisor(top, bottom).lowBits();
            case 1:
                return (int) desk.cross(top, bottom, walkNumber(asked, 2), walkNumber(asked, 3)).lowBits();
            default:
                return (int) desk.norm(asked.base, top, bottom).lowBits();
        }
    }

    private long walkDecimals(Walk asked, int places) {
        return desk.quotient(fraction.top(asked.step), fraction.bottom(asked.step), places);
    }

    private static int countBits(Whole value, int what) {
        switch (what) {
            case 0:
                return value.bits();
            case 1:
                return value.ones();
            default:
                return value.zerosBehind();
        }
    }

    // ---- bases

    private static int rootOf(int number) {
        int root = 0;
        for (int next = 1; next <= TEN && next * next <= number; next++) {
            root = next;
        }
        return root;
    }

    /** The EXACT root times 10^places, rounded down. */
    private static long rootDecimals(int base, int places) {
        long root = rootOf(base);
        long left = base - root * root;
        // digit by digit as by hand; left is at most 2 * root, so below 2 * 10^16 ahead of the last digit,
        // and 100 * left fits into a long
        for (int i = 0; i < places; i++) {
            left *= TEN * TEN;
            long digit = 0;
            for (long next = 1; next < TEN && (2 * TEN * root + next) * next <= left; next++) {
                digit = next;
            }
            left -= (2 * TEN * root + digit) * digit;
            root = TEN * root + digit;
        }
        return root;
    }

    private void setSolution(Pair into, int base) {
        fraction.expand(base);
        int step = fraction.solutionStep();
        into.setWholes(base, fraction.top(step), fraction.bottom(step));
    }

    // ---- pairs

    /** Ends each ACT of PAIRS: the draft is what the PAIR is to become. */
    private int becomeDraft(Pair pair) {
        if (draft.isTooLong()) {
            return refuse();
        }
        pairActs++;
        if (pair.isLike(draft)) {
            return 0;
        }
        pair.setPair(draft);
        return 1;
    }

    private void multiplyDraft(Pair by) {
        desk.multiply(draft, by, spare);
        draft.setPair(spare);
    }

    // ---- splits and primes

    private static void runWay(Split into, Split from) {
        into.begin(from.prime);
        into.goOnToSettled();
    }

    private static boolean hasTwoDivisors(int number) {
        for (int by = 2; by <= number && by * by <= number; by++) {
            if (number % by == 0) {
                return false;
            }
        }
        return number >= 2;
    }

    private static boolean isSplittable(int number) {
        return number >= LEAST_PRIME && number <= GREATEST_PRIME && number % 4 == 1 && hasTwoDivisors(number);
    }

    private static int rest(long number, int by) {
        return by < 1 ? 0 : (int) Math.floorMod(number, (long) by);
    }

    /** The rest of number^exponent by a number; the exponents here are below 997, the numbers, too. */
    private static int restOfPower(int number, int exponent, int by) {
        long power = 1;
        long square = rest(number, by);
        for (int i = 0; i < EXPONENT_BITS; i++) {
            if ((exponent >> i & 1) == 1) {
                power = rest(power * square, by);
            }
            square = rest(square * square, by);
        }
        return (int) power;
    }

    // ---- the whole

    private boolean isWalkSound(Walk asked) {
        int step = asked.step;
        int sign = step % 2 == 1 ? 1 : -1;
        int m = fraction.partM(step);
        int d = fraction.partD(step);
        Whole top = fraction.top(step);
        Whole bottom = fraction.bottom(step);
        return m >= 0 && m <= fraction.root
            && d >= 1 && d <= 2 * fraction.root
            && desk.divisor(top, bottom).isOne()
            && desk.cross(top, bottom, fraction.top(step - 1), fraction.bottom(step - 1)).isNumber(sign)
            && desk.norm(asked.base, top, bottom).isNumber(sign * fraction.partD(step + 1));
    }

    private boolean isPairSound(Pair asked) {
        boolean isNothing = asked.left.isZero() && asked.right.isZero();
        return !asked.isTooLong() && desk.norm(asked.base, asked.left, asked.right).isZero() == isNothing;
    }

    private static long mix(long sum, long value) {
        return sum * DIGEST_FACTOR + value;
    }

    private long mixWalk(long start, Walk asked) {
        long sum = start;
        for (int what = 0; what <= 5; what++) {
            sum = mix(sum, walkPart(asked, what));
        }
        for (int which = 0; which <= 3; which++) {
            sum = mix(sum, walkNumber(asked, which).lowBits());
        }
        return mix(mix(sum, walkTest(asked, 1)), walkTest(asked, 2));
    }

    private static long mixPair(long start, Pair asked) {
        long sum = mix(start, asked.base);
        sum = mix(mix(sum, asked.left.lowBits()), asked.right.lowBits());
        return mix(mix(sum, asked.left.bits()), asked.right.bits());
    }

    /** Where a WALK stands; its numbers are asked of the Fraction, which holds one BASE at a time. */
    private static final class Walk {
        int base = LEAST_BASE;
        int step;
    }

    /** M, D, A, P and Q of one BASE, up to the step behind the last one that a WALK reaches. */
    private static final class Fraction {
        static final int LAST = LAST_STEP + 1;

        int base;
        int root;
        private final int[] ms = new int[LAST + 1];
        private final int[] ds = new int[LAST + 1];
        private final int[] as = new int[LAST + 1];
        // P(-1) and Q(-1) stand at 0, so P(k) and Q(k) at k + 1
        private final Whole[] tops = new Whole[LAST + 2];
        private final Whole[] bottoms = new Whole[LAST + 2];

        Fraction() {
            for (int i = 0; i < LAST + 2; i++) {
                tops[i] = new Whole();
                bottoms[i] = new Whole();
            }
        }

        void expand(int wanted) {
            if (wanted == base) {
                return;
            }
            base = wanted;
            root = rootOf(wanted);
            fillParts();
            fillRow(tops, 1, root);
            fillRow(bottoms, 0, 1);
        }

        private void fillParts() {
            ms[0] = 0;
            ds[0] = 1;
            as[0] = root;
            for (int k = 1; k <= LAST; k++) {
                ms[k] = ds[k - 1] * as[k - 1] - ms[k - 1];
                ds[k] = (base - ms[k] * ms[k]) / Math.max(1, ds[k - 1]);
                as[k] = (root + ms[k]) / Math.max(1, ds[k]);
            }
        }

        private void fillRow(Whole[] row, int beforeFirst, int first) {
            row[0].setNumber(beforeFirst);
            row[1].setNumber(first);
            for (int k = 1; k <= LAST && k + 1 < row.length; k++) {
                row[k + 1].setWhole(row[k]);
                row[k + 1].multiplySmall(as[k], 0);
                row[k + 1].addSize(row[k - 1]);
            }
        }

        private static int place(int k) {
            return Math.max(0, Math.min(LAST, k));
        }

        int partM(int k) {
            return ms[place(k)];
        }

        int partD(int k) {
            return ds[place(k)];
        }

        int partA(int k) {
            return as[place(k)];
        }

        Whole top(int k) {
            return k < 0 ? tops[0] : tops[place(k) + 1];
        }

        Whole bottom(int k) {
            return k < 0 ? bottoms[0] : bottoms[place(k) + 1];
        }

        /** The PERIOD. */
        int turn() {
            for (int k = 1; k < LAST; k++) {
                if (ds[k] == 1) {
                    return k;
                }
            }
            return LAST;
        }

        boolean isTurnOdd() {
            return turn() % 2 == 1;
        }

        /** The step at which P and Q are the LEAST SOLUTION. */
        int solutionStep() {
            return (isTurnOdd() ? 2 * turn() : turn()) - 1;
        }
    }

    /** A PAIR, or one that is still being worked out. */
    private static final class Pair {
        int base = LEAST_BASE;
        final Whole left = new Whole();
        final Whole right = new Whole();

        Pair() {
            left.setNumber(1);
        }

        void setNumbers(int newBase, int newLeft, int newRight) {
            base = newBase;
            left.setNumber(newLeft);
            right.setNumber(newRight);
        }

        void setWholes(int newBase, Whole newLeft, Whole newRight) {
            base = newBase;
            left.setWhole(newLeft);
            right.setWhole(newRight);
        }

        void setPair(Pair other) {
            setWholes(other.base, other.left, other.right);
        }

        Whole side(boolean isLeft) {
            return isLeft ? left : right;
        }

        boolean isLike(Pair other) {
            return base == other.base
                && left.compareValue(other.left) == 0
                && right.compareValue(other.right) == 0;
        }

        boolean isTooLong() {
            return left.bits() > MOST_BITS || right.bits() > MOST_BITS;
        }
    }

    /** A SPLITTABLE number with the state of Euclid's steps on it. */
    private static final class Split {
        static final int MOST_STEPS = 1000;

        int prime;
        int witness;
        int imaginary;
        int a;
        int b;
        int u;
        int v;
        int steps;

        Split() {
            begin(LEAST_PRIME);
        }

        void begin(int number) {
            prime = number;
            witness = findWitness(number);
            imaginary = restOfPower(witness, (number - 1) / 4, number);
            a = number;
            b = imaginary;
            u = 0;
            v = 1;
            steps = 0;
        }

        private static int findWitness(int number) {
            for (int c = 2; c < number; c++) {
                if (restOfPower(c, (number - 1) / 2, number) == number - 1) {
                    return c;
                }
            }
            return 0;
        }

        boolean isSettled() {
            return a * a < prime;
        }

        void goOn() {
            if (b == 0) {
                return;
            }
            int times = a / b;
            int restOfA = a - times * b;
            int restOfU = u - times * v;
            a = b;
            b = restOfA;
            u = v;
            v = restOfU;
            steps++;
        }

        int goOnToSettled() {
            int made = 0;
            for (int i = 0; i < MOST_STEPS && b != 0 && !isSettled(); i++) {
                goOn();
                made++;
            }
            return made;
        }

        int number(int what) {
            switch (what) {
                case 0:
                    return prime;
                case 1:
                    return witness;
                case 2:
                    return imaginary;
                case 3:
                    return a;
                case 4:
                    return b;
                case 5:
                    return u;
                case 6:
                    return v;
                default:
                    return steps;
            }
        }

        boolean isSoundSplit() {
            return rest((long) a * a + (long) u * u, prime) == 0
                && rest((long) imaginary * imaginary + 1, prime) == 0
                && a * Math.abs(v) + b * Math.abs(u) == prime;
        }
    }

    /** Rows that every call uses again for what it works out in between, so that no call leaves numbers behind. */
    private static final class Desk {
        static final int MOST_DIGITS = Whole.ROW * Whole.DIGIT_BITS;
        static final int BYTE = 256;

        private final Whole first = new Whole();
        private final Whole second = new Whole();
        private final Whole shifted = new Whole();
        private final Whole shown = new Whole();
        private final byte[] bytes = new byte[MOST_DIGITS / 8];

        /** x * x - base * y * y, in a row that the next call of the desk may use. */
        Whole norm(int base, Whole x, Whole y) {
            first.setProduct(y, y);
            first.multiplySmall(base, 0);
            second.setProduct(x, x);
            second.addOrTake(first, true);
            return second;
        }

        Whole cross(Whole top, Whole bottom, Whole topBefore, Whole bottomBefore) {
            first.setProduct(top, bottomBefore);
            second.setProduct(topBefore, bottom);
            first.addOrTake(second, true);
            return first;
        }

        /** The greatest common divisor of two numbers above 0. */
        Whole divisor(Whole one, Whole other) {
            first.setWhole(one);
            second.setWhole(other);
            Whole greater = first;
            Whole lesser = second;
            for (int i = 0; i < 2 * MOST_DIGITS && !lesser.isZero(); i++) {
                reduce(greater, lesser);
                Whole reduced = greater;
                greater = lesser;
                lesser = reduced;
            }
            return greater;
        }

        /** Leaves the rest of a number of 0 or more in it; tells the quotient, which is to fit into a long. */
        private long reduce(Whole number, Whole by) {
            int gap = number.bits() - by.bits();
            if (by.isZero() || gap < 0) {
                return 0;
            }
            long quotient = 0;
            shifted.setWhole(by);
            shifted.shiftUp(gap);
            for (int i = gap; i >= 0; i--) {
                quotient *= 2;
                if (number.compareSize(shifted) >= 0) {
                    number.takeSize(shifted);
                    quotient++;
                }
                shifted.divideSmall(2);
            }
            return quotient;
        }

        /** top * 10^places / bottom, rounded down; bottom is above 0. */
        long quotient(Whole top, Whole bottom, int places) {
            first.setWhole(top);
            for (int i = 0; i < places; i++) {
                first.multiplySmall(TEN, 0);
            }
            return reduce(first, bottom);
        }

        /**
         * Whether |P / Q - root| < 1 / (t * Q * next). Both sides times Q * (P + Q * root) leave
         * t * next * |NORM| - P < Q * root, which squares to whole numbers.
         */
        boolean isWithin(int base, Whole top, Whole bottom, Whole next, int times) {
            Whole norm = norm(base, top, bottom);
            norm.makeSize();
            first.setProduct(norm, next);
            first.multiplySmall(times, 0);
            first.addOrTake(top, true);
            if (first.isBelow()) {
                return true;
            }
            second.setProduct(first, first);
            shifted.setProduct(bottom, bottom);
            shifted.multiplySmall(base, 0);
            return second.compareSize(shifted) < 0;
        }

        /** The PRODUCT of two PAIRS of one BASE into a third one. */
        void multiply(Pair one, Pair other, Pair into) {
            into.base = one.base;
            into.left.setProduct(one.right, other.right);
            into.left.multiplySmall(one.base, 0);
            first.setProduct(one.left, other.left);
            into.left.addOrTake(first, false);
            into.right.setProduct(one.left, other.right);
            first.setProduct(one.right, other.left);
            into.right.addOrTake(first, false);
        }

        String longText(long value) {
            first.setNumber(value);
            return text(first, TEN);
        }

        String text(Whole value, int radix) {
            StringBuilder out = new StringBuilder();
            write(out, value, radix);
            return out.toString();
        }

        /** What was written there before is gone. */
        private void write(StringBuilder out, Whole value, int radix) {
            out.setLength(0);
            shown.setWhole(value);
            // the first digit is put even if it is 0; they come last one first
            for (int i = 0; i < MOST_DIGITS && (i == 0 || !shown.isZero()); i++) {
                int digit = shown.divideSmall(radix);
                out.append((char) (digit < TEN ? '0' + digit : 'a' + digit - TEN));
            }
            if (value.isBelow()) {
                out.append('-');
            }
            out.reverse();
        }

        /** Both are of 0 or more, and written one after the other into the same builder, for room. */
        boolean areReadFromText(Whole one, Whole other, int radix) {
            StringBuilder out = new StringBuilder();
            write(out, one, radix);
            boolean isOneRead = isReadFrom(out, one, radix);
            write(out, other, radix);
            return isOneRead && isReadFrom(out, other, radix);
        }

        private boolean isReadFrom(StringBuilder written, Whole value, int radix) {
            first.setNumber(0);
            for (int i = 0; i < written.length(); i++) {
                char sign = written.charAt(i);
                first.multiplySmall(radix, sign <= '9' ? sign - '0' : sign - 'a' + TEN);
            }
            return first.compareValue(value) == 0;
        }

        boolean isReadFromBytes(Whole value) {
            shown.setWhole(value);
            for (int i = 0; i < bytes.length; i++) {
                bytes[i] = (byte) shown.divideSmall(BYTE);
            }
            first.setNumber(0);
            for (int i = bytes.length - 1; i >= 0; i--) {
                first.multiplySmall(BYTE, bytes[i] & (BYTE - 1));
            }
            return first.compareValue(value) == 0;
        }
    }

    /**
     * A whole number of up to 504 binary digits beside its sign. The longest number that comes up is
     * within the POWER 5 of a PAIR of 80 BITS, which has less than 440; what would go over is cut off.
     */
    private static final class Whole {
        static final int ROW = 18;
        static final int DIGIT_BITS = 28;
        static final int MASK = (1 << DIGIT_BITS) - 1;
        static final int INT_BITS = 32;

        // last digit first; the digits from used on are 0, the one ahead of them is not
        private final int[] row = new int[ROW];
        private int used;
        private boolean isBelow;

        boolean isBelow() {
            return isBelow;
        }

        boolean isZero() {
            return used == 0;
        }

        boolean isOne() {
            return isNumber(1);
        }

        boolean isNumber(int value) {
            return used <= 1 && (isBelow ? -row[0] : row[0]) == value;
        }

        void setNumber(long value) {
            clear();
            isBelow = value < 0;
            long left = isBelow ? -value : value;
            for (int i = 0; i < ROW && left != 0; i++) {
                row[i] = (int) (left & MASK);
                left >>>= DIGIT_BITS;
            }
            trim(ROW);
        }

        void setWhole(Whole other) {
            System.arraycopy(other.row, 0, row, 0, ROW);
            used = other.used;
            isBelow = other.isBelow;
        }

        void negate() {
            isBelow = used > 0 && !isBelow;
        }

        void makeSize() {
            isBelow = false;
        }

        private void clear() {
            Arrays.fill(row, 0);
            used = 0;
            isBelow = false;
        }

        /** Counts the digits anew; those from the place on are 0. */
        private void trim(int place) {
            used = 0;
            for (int i = (place < ROW ? place : ROW) - 1; i >= 0 && used == 0; i--) {
                if (row[i] != 0) {
                    used = i + 1;
                }
            }
            isBelow = isBelow && used > 0;
        }

        /** Adds the other one, or takes it away. */
        void addOrTake(Whole other, boolean isTaken) {
            boolean isOtherBelow = other.isBelow != isTaken;
            if (isBelow == isOtherBelow) {
                addSize(other);
            } else if (compareSize(other) >= 0) {
                takeSize(other);
            } else {
                isBelow = isOtherBelow;
                takeFromSize(other);
            }
        }

        /** The size grows by that of the other one. */
        void addSize(Whole other) {
            int end = Math.min(ROW, Math.max(used, other.used) + 1);
            int carry = 0;
            for (int i = 0; i < end; i++) {
                carry += row[i] + other.row[i];
                row[i] = carry & MASK;
                carry >>>= DIGIT_BITS;
            }
            trim(end);
        }

        /** The size shrinks by that of the other one, which is not greater. */
        void takeSize(Whole other) {
            int end = Math.min(ROW, used);
            int borrow = 0;
            for (int i = 0; i < end; i++) {
                int left = row[i] - other.row[i] - borrow;
                row[i] = left & MASK;
                borrow = left < 0 ? 1 : 0;
            }
            trim(end);
        }

        /** The size becomes what is left of that of the other one, which is greater. */
        private void takeFromSize(Whole other) {
            int end = Math.min(ROW, other.used);
            int borrow = 0;
            for (int i = 0; i < end; i++) {
                int left = other.row[i] - row[i] - borrow;
                row[i] = left & MASK;
                borrow = left < 0 ? 1 : 0;
            }
            trim(end);
        }

        /** This is to be neither of both. */
        void setProduct(Whole one, Whole other) {
            clear();
            int end = Math.min(ROW, one.used + other.used);
            for (int i = 0; i < one.used && i < end; i++) {
                long carry = 0;
                for (int j = 0; j <= other.used && i + j < end; j++) {
                    carry += row[i + j] + (long) one.row[i] * other.row[j];
                    row[i + j] = (int) (carry & MASK);
                    carry >>>= DIGIT_BITS;
                }
            }
            isBelow = one.isBelow != other.isBelow;
            trim(end);
        }

        /** The size becomes size * by + more, of numbers from 0 to 999. */
        void multiplySmall(int by, int more) {
            int end = Math.min(ROW, used + 1);
            long carry = more;
            for (int i = 0; i < end; i++) {
                carry += (long) row[i] * by;
                row[i] = (int) (carry & MASK);
                carry >>>= DIGIT_BITS;
            }
            trim(end);
        }

        /** The size becomes size / by, rounded down; tells the rest. */
        int divideSmall(int by) {
            if (by < 1) {
                return 0;
            }
            long rest = 0;
            for (int i = Math.min(ROW, used) - 1; i >= 0; i--) {
                long left = (rest << DIGIT_BITS) + row[i];
                row[i] = (int) (left / by);
                rest = left % by;
            }
            trim(used);
            return (int) rest;
        }

        void shiftUp(int many) {
            int digits = Math.max(0, many) / DIGIT_BITS;
            int bits = Math.max(0, many) % DIGIT_BITS;
            int end = Math.min(ROW, used + digits + 1);
            for (int i = end - 1; i >= 0; i--) {
                int from = i - digits;
                int high = from >= 0 ? row[from] << bits : 0;
                int low = from >= 1 ? row[from - 1] >>> (DIGIT_BITS - bits) : 0;
                row[i] = (high & MASK) | low;
            }
            trim(end);
        }

        int compareSize(Whole other) {
            for (int i = Math.min(ROW, Math.max(used, other.used)) - 1; i >= 0; i--) {
                if (row[i] != other.row[i]) {
                    return row[i] > other.row[i] ? 1 : -1;
                }
            }
            return 0;
        }

        int compareValue(Whole other) {
            if (isBelow != other.isBelow) {
                return isBelow ? -1 : 1;
            }
            return isBelow ? -compareSize(other) : compareSize(other);
        }

        int bits() {
            if (used < 1 || used > ROW) {
                return 0;
            }
            int inFirstDigit = INT_BITS - Integer.numberOfLeadingZeros(row[used - 1]);
            return (used - 1) * DIGIT_BITS + inFirstDigit;
        }

        int ones() {
            int found = 0;
            for (int i = 0; i < ROW; i++) {
                found += Integer.bitCount(row[i]);
            }
            return found;
        }

        /** How many zeros stand behind the last binary digit 1; -1 if there is none. */
        int zerosBehind() {
            for (int i = 0; i < ROW; i++) {
                if (row[i] != 0) {
                    return i * DIGIT_BITS + Integer.numberOfTrailingZeros(row[i]);
                }
            }
            return -1;
        }

        boolean hasBit(int place) {
            int digit = place < 0 ? ROW : place / DIGIT_BITS;
            return digit < ROW && (row[digit] >>> (place % DIGIT_BITS) & 1) == 1;
        }

        /** The number wrapped around as a 64-bit integer. */
        long lowBits() {
            long size = row[0] | (long) row[1] << DIGIT_BITS | (long) row[2] << (2 * DIGIT_BITS);
            return isBelow ? -size : size;
        }
    }
}
