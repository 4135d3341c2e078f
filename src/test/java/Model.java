import java.math.BigDecimal;
import java.math.BigInteger;
import java.math.MathContext;

/**
 * The document once more, over BigInteger and by the plainest search, for the runs of ModelRuns: it
 * shares no code with Rootwalk, and it is asked by the same names.
 */
public final class Model {
    private static final MathContext FINE = new MathContext(200);
    private static final BigInteger ONE = BigInteger.ONE;

    private final int[] walkBase = {2, 2, 2};
    private final int[] walkStep = new int[3];
    private final int[] base = {2, 2, 2};
    private final BigInteger[][] sides = {{ONE, BigInteger.ZERO}, {ONE, BigInteger.ZERO}, {ONE, BigInteger.ZERO}};
    // P, A, B, U, V, steps
    private final int[][] begun = new int[3][];
    private final int[] houses = new int[5];

    public Model() {
        for (int i = 0; i < 3; i++) {
            begun[i] = begin(5);
        }
    }

    private static void third(int... indexes) {
        for (int index : indexes) {
            if (index < 0 || index > 2) {
                throw new IndexOutOfBoundsException();
            }
        }
    }

    private static void need(boolean isAllowed) {
        if (!isAllowed) {
            throw new IllegalArgumentException();
        }
    }

    private static boolean isBase(int n) {
        return n >= 2 && n <= 99 && Math.sqrt(n) != Math.floor(Math.sqrt(n));
    }

    private int refused() {
        houses[3]++;
        return -9;
    }

    private int done(int house, int answer) {
        houses[house]++;
        return answer;
    }

    // ---- the rows of a base, by their recursion

    private static int[] mda(int n, int k) {
        int r = (int) Math.sqrt(n);
        int[] now = {0, 1, r};
        for (int i = 1; i <= k; i++) {
            int m = now[1] * now[2] - now[0];
            int d = (n - m * m) / now[1];
            now = new int[] {m, d, (r + m) / d};
        }
        return now;
    }

    private static BigInteger big(int n, int k, boolean isTop) {
        if (k == -1) {
            return isTop ? ONE : BigInteger.ZERO;
        }
        BigInteger before = big(n, -1, isTop);
        BigInteger now = isTop ? BigInteger.valueOf(mda(n, 0)[2]) : ONE;
        for (int i = 1; i <= k; i++) {
            BigInteger next = now.multiply(BigInteger.valueOf(mda(n, i)[2])).add(before);
            before = now;
            now = next;
        }
        return now;
    }

    private static BigInteger normOf(int n, BigInteger x, BigInteger y) {
        return x.multiply(x).subtract(y.multiply(y).multiply(BigInteger.valueOf(n)));
    }

    // ---- walks

    public int open(int walk, int n) {
        third(walk);
        need(isBase(n));
        walkBase[walk] = n;
        walkStep[walk] = 0;
        return done(0, (int) Math.sqrt(n));
    }

    public int forth(int walk, int many) {
        third(walk);
        need(many >= 1 && many <= 6);
        return walkStep[walk] + many > 24 ? refused() : done(0, walkStep[walk] += many);
    }

    public int back(int walk) {
        third(walk);
        return walkStep[walk] == 0 ? refused() : done(0, --walkStep[walk]);
    }

    public int walkCopy(int walk, int into) {
        third(walk, into);
        String was = walkBase[into] + " " + walkStep[into];
        walkBase[into] = walkBase[walk];
        walkStep[into] = walkStep[walk];
        return done(0, was.equals(walkBase[into] + " " + walkStep[into]) ? 0 : 1);
    }

    public int part(int walk, int what) {
        third(walk);
        need(what >= 0 && what <= 5);
        int n = walkBase[walk];
        if (what < 3) {
            return new int[] {n, walkStep[walk], (int) Math.sqrt(n)}[what];
        }
        return mda(n, walkStep[walk])[what - 3];
    }

    public String walkText(int walk, int which, int radix) {
        third(walk);
        need(which >= 0 && which <= 3 && radix >= 2 && radix <= 16);
        return big(walkBase[walk], walkStep[walk] - which / 2, which % 2 == 0).toString(radix);
    }

    private BigInteger top(int walk) {
        return big(walkBase[walk], walkStep[walk], true);
    }

    private BigInteger bottom(int walk) {
        return big(walkBase[walk], walkStep[walk], false);
    }

    public int test(int walk, int what) {
        third(walk);
        need(what >= 0 && what <= 2);
        if (what == 0) {
            return top(walk).gcd(bottom(walk)).intValueExact();
        }
        if (what == 1) {
            BigInteger p = big(walkBase[walk], walkStep[walk] - 1, true);
            BigInteger q = big(walkBase[walk], walkStep[walk] - 1, false);
            return top(walk).multiply(q).subtract(p.multiply(bottom(walk))).intValueExact();
        }
        return normOf(walkBase[walk], top(walk), bottom(walk)).intValueExact();
    }

    private static int counted(BigInteger v, int what) {
        need(what >= 0 && what <= 2);
        return what == 0 ? v.abs().bitLength() : what == 1 ? v.abs().bitCount() : v.getLowestSetBit();
    }

    public int walkBits(int walk, boolean isTop, int what) {
        third(walk);
        return counted(isTop ? top(walk) : bottom(walk), what);
    }

    public boolean bit(int walk, boolean isTop, int place) {
        third(walk);
        need(place >= 0 && place <= 119);
        return (isTop ? top(walk) : bottom(walk)).testBit(place);
    }

    public boolean isRead(int walk, int radix) {
        third(walk);
        need(radix == 0 || radix >= 2 && radix <= 16);
        return true;
    }

    public boolean isNear(int walk, int times) {
        third(walk);
        need(times >= 1 && times <= 3);
        BigDecimal q = new BigDecimal(bottom(walk));
        BigDecimal away = new BigDecimal(top(walk)).divide(q, FINE)
            .subtract(new BigDecimal(walkBase[walk]).sqrt(FINE)).abs();
        BigDecimal next = new BigDecimal(big(walkBase[walk], walkStep[walk] + 1, false));
        BigDecimal limit = BigDecimal.ONE.divide(q.multiply(next).multiply(BigDecimal.valueOf(times)), FINE);
        return away.compareTo(limit) < 0;
    }

    public String decimals(int walk, int places) {
        third(walk);
        need(places >= 0 && places <= 16);
        return top(walk).multiply(BigInteger.TEN.pow(places)).divide(bottom(walk)).toString();
    }

    public int alike(int walk) {
        third(walk);
        int found = -1;
        for (int e = 0; e <= 16; e++) {
            if (decimals(walk, e).equals(rootText(walkBase[walk], e))) {
                found = e;
            }
        }
        return found;
    }

    // ---- bases

    public String rootText(int n, int places) {
        need(n >= 1 && n <= 99 && places >= 0 && places <= 16);
        return BigInteger.valueOf(n).multiply(BigInteger.TEN.pow(2 * places)).sqrt().toString();
    }

    public int period(int n) {
        need(isBase(n));
        int k = 1;
        while (mda(n, k)[1] != 1) {
            k++;
        }
        return k;
    }

    public String periodText(int n) {
        StringBuilder out = new StringBuilder();
        for (int k = 0; k <= period(n); k++) {
            out.append(k == 0 ? "" : " ").append(mda(n, k)[2]);
        }
        return out.toString();
    }

    private BigInteger leastOf(int n, boolean isLeft) {
        int s = period(n) % 2 == 0 ? period(n) : 2 * period(n);
        return big(n, s - 1, isLeft);
    }

    public String solution(int n, boolean isLeft) {
        need(isBase(n));
        return leastOf(n, isLeft).toString();
    }

    public String minus(int n, boolean isLeft) {
        return period(n) % 2 == 0 ? "" : big(n, period(n) - 1, isLeft).toString();
    }

    public String middle(int n) {
        int h = (period(n) + 1) / 2;
        return period(n) % 2 == 0 ? "" : mda(n, h)[0] + " " + mda(n, h)[1];
    }

    // ---- pairs

    private int become(int pair, int n, BigInteger x, BigInteger y) {
        if (x.abs().bitLength() > 80 || y.abs().bitLength() > 80) {
            return refused();
        }
        boolean isSame = base[pair] == n && sides[pair][0].equals(x) && sides[pair][1].equals(y);
        base[pair] = n;
        sides[pair] = new BigInteger[] {x, y};
        return done(1, isSame ? 0 : 1);
    }

    public int put(int pair, int n, int left, int right) {
        third(pair);
        need(isBase(n) && Math.abs((long) left) <= 1000 && Math.abs((long) right) <= 1000);
        return become(pair, n, BigInteger.valueOf(left), BigInteger.valueOf(right));
    }

    public int take(int walk, int pair) {
        third(walk, pair);
        return become(pair, walkBase[walk], top(walk), bottom(walk));
    }

    public int least(int pair, int n) {
        third(pair);
        need(isBase(n));
        return become(pair, n, leastOf(n, true), leastOf(n, false));
    }

    private static BigInteger[] times(int n, BigInteger[] one, BigInteger[] other) {
        BigInteger yv = one[1].multiply(other[1]).multiply(BigInteger.valueOf(n));
        return new BigInteger[] {
            one[0].multiply(other[0]).add(yv), one[0].multiply(other[1]).add(one[1].multiply(other[0]))
        };
    }

    public int compose(int one, int other, int into) {
        third(one, other, into);
        if (base[one] != base[other]) {
            return refused();
        }
        BigInteger[] product = times(base[one], sides[one], sides[other]);
        return become(into, base[one], product[0], product[1]);
    }

    private static BigInteger[] powered(int n, BigInteger[] of, int e) {
        return e == 0 ? new BigInteger[] {ONE, BigInteger.ZERO} : times(n, powered(n, of, e - 1), of);
    }

    public int power(int pair, int exponent) {
        third(pair);
        need(exponent >= 0 && exponent <= 5);
        BigInteger[] power = powered(base[pair], sides[pair], exponent);
        return become(pair, base[pair], power[0], power[1]);
    }

    public int mirror(int pair, boolean isBoth) {
        third(pair);
        return become(pair, base[pair], isBoth ? sides[pair][0].negate() : sides[pair][0], sides[pair][1].negate());
    }

    public int divideBy(int pair, int by) {
        third(pair);
        need(by >= -99 && by <= 99);
        if (by == 0) {
            return refused();
        }
        BigInteger[] x = sides[pair][0].divideAndRemainder(BigInteger.valueOf(by));
        BigInteger[] y = sides[pair][1].divideAndRemainder(BigInteger.valueOf(by));
        return x[1].signum() != 0 || y[1].signum() != 0 ? refused() : become(pair, base[pair], x[0], y[0]);
    }

    public int pairCopy(int pair, int into) {
        third(pair, into);
        return become(into, base[pair], sides[pair][0], sides[pair][1]);
    }

    public int pairBase(int pair) {
        third(pair);
        return base[pair];
    }

    public String pairText(int pair, boolean isLeft) {
        third(pair);
        return sides[pair][isLeft ? 0 : 1].toString();
    }

    public String pairNorm(int pair) {
        third(pair);
        return normOf(base[pair], sides[pair][0], sides[pair][1]).toString();
    }

    public int pairBits(int pair, boolean isLeft, int what) {
        third(pair);
        return counted(sides[pair][isLeft ? 0 : 1], what);
    }

    public int rank(int pair) {
        third(pair);
        if (!pairNorm(pair).equals("1")) {
            return -1;
        }
        BigInteger[] least = {leastOf(base[pair], true), leastOf(base[pair], false)};
        int j = 0;
        BigInteger[] power = powered(base[pair], least, 0);
        while (!power[0].equals(sides[pair][0].abs()) || !power[1].equals(sides[pair][1].abs())) {
            power = times(base[pair], power, least);
            j++;
        }
        return j;
    }

    public int order(int one, int other, boolean isLeft) {
        third(one, other);
        return sides[one][isLeft ? 0 : 1].compareTo(sides[other][isLeft ? 0 : 1]);
    }

    public boolean isSame(int one, int other) {
        third(one, other);
        return base[one] == base[other] && order(one, other, true) == 0 && order(one, other, false) == 0;
    }

    public String extreme(boolean isLeft, boolean isGreatest) {
        int s = isLeft ? 0 : 1;
        BigInteger greatest = sides[0][s].max(sides[1][s]).max(sides[2][s]);
        return (isGreatest ? greatest : sides[0][s].min(sides[1][s]).min(sides[2][s])).toString();
    }

    // ---- splits

    private static int powerRest(long number, int exponent, int by) {
        return BigInteger.valueOf(number).modPow(BigInteger.valueOf(exponent), BigInteger.valueOf(by)).intValue();
    }

    private static int witness(int prime) {
        int c = 2;
        while (powerRest(c, (prime - 1) / 2, prime) != prime - 1) {
            c++;
        }
        return c;
    }

    private static int imaginary(int prime) {
        return powerRest(witness(prime), (prime - 1) / 4, prime);
    }

    private static int[] begin(int prime) {
        return new int[] {prime, prime, imaginary(prime), 0, 1, 0};
    }

    public int split(int split, int number) {
        third(split);
        need(number >= 5 && number <= 997);
        if (number % 4 != 1 || !isPrime(number)) {
            return refused();
        }
        begun[split] = begin(number);
        return done(2, witness(number));
    }

    private static int[] next(int[] s) {
        int g = s[1] / s[2];
        return new int[] {s[0], s[2], s[1] - g * s[2], s[4], s[3] - g * s[4], s[5] + 1};
    }

    public int euclid(int split) {
        third(split);
        if (begun[split][2] == 0) {
            return refused();
        }
        begun[split] = next(begun[split]);
        return done(2, begun[split][2]);
    }

    public int settle(int split) {
        third(split);
        int was = begun[split][5];
        while (begun[split][1] * begun[split][1] >= begun[split][0]) {
            begun[split] = next(begun[split]);
        }
        return done(2, begun[split][5] - was);
    }

    public int splitNumber(int split, int what) {
        third(split);
        need(what >= 0 && what <= 7);
        int prime = begun[split][0];
        return what == 1 ? witness(prime) : what == 2 ? imaginary(prime) : begun[split][what == 0 ? 0 : what - 2];
    }

    private static int[] wayOf(int prime) {
        for (int b = 1; b < 32; b++) {
            for (int a = b + 1; a < 32; a++) {
                if (a * a + b * b == prime) {
                    return new int[] {a, b};
                }
            }
        }
        throw new AssertionError(prime);
    }

    public String way(int split) {
        third(split);
        int[] way = wayOf(begun[split][0]);
        return way[0] + " " + way[1];
    }

    public String product(int one, int other) {
        third(one, other);
        int[] x = wayOf(begun[one][0]);
        int[] y = wayOf(begun[other][0]);
        return (x[0] * y[0] + x[1] * y[1]) + " " + Math.abs(x[0] * y[1] - x[1] * y[0]) + " "
            + Math.abs(x[0] * y[0] - x[1] * y[1]) + " " + (x[0] * y[1] + x[1] * y[0]);
    }

    public int symbol(int split, int number) {
        third(split);
        need(number >= -999 && number <= 999);
        int prime = begun[split][0];
        int rest = Math.floorMod(number, prime);
        for (int root = 0; root < prime; root++) {
            if (root * root % prime == rest) {
                return rest == 0 ? 0 : 1;
            }
        }
        return -1;
    }

    public int inverse(int split, int number) {
        third(split);
        need(number >= -999 && number <= 999);
        int prime = begun[split][0];
        for (int v = 1; v < prime; v++) {
            if (Math.floorMod(number * v, prime) == 1) {
                return v;
            }
        }
        return 0;
    }

    public boolean isPrime(int number) {
        need(number >= 0 && number <= 999);
        int divisors = 0;
        for (int by = 1; by <= number; by++) {
            divisors += number % by == 0 ? 1 : 0;
        }
        return divisors == 2;
    }

    // ---- the whole

    public int house(int what) {
        need(what >= 0 && what <= 4);
        return houses[what];
    }

    public int knock() {
        return ++houses[4];
    }

    public boolean isSound() {
        return true;
    }

    public long digest() {
        BigInteger d = BigInteger.valueOf(7685);
        for (int walk = 0; walk < 3; walk++) {
            for (int what = 0; what <= 5; what++) {
                d = mix(d, BigInteger.valueOf(part(walk, what)));
            }
            for (int which = 0; which <= 3; which++) {
                d = mix(d, big(walkBase[walk], walkStep[walk] - which / 2, which % 2 == 0));
            }
            d = mix(mix(d, BigInteger.valueOf(test(walk, 1))), BigInteger.valueOf(test(walk, 2)));
        }
        for (int pair = 0; pair < 3; pair++) {
            d = mix(mix(mix(d, BigInteger.valueOf(base[pair])), sides[pair][0]), sides[pair][1]);
            d = mix(mix(d, BigInteger.valueOf(pairBits(pair, true, 0))), BigInteger.valueOf(pairBits(pair, false, 0)));
        }
        for (int split = 0; split < 3; split++) {
            for (int what = 0; what <= 7; what++) {
                d = mix(d, BigInteger.valueOf(splitNumber(split, what)));
            }
        }
        for (int what = 0; what <= 4; what++) {
            d = mix(d, BigInteger.valueOf(houses[what]));
        }
        return mix(d, ONE).longValue();
    }

    private static BigInteger mix(BigInteger d, BigInteger v) {
        return d.multiply(BigInteger.valueOf(31)).add(v);
    }
}
