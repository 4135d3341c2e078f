/** Each promise by itself: ordinary inputs, the edges that the document names, and wrong inputs. */
public final class PromiseTests {
    private interface Call {
        Object run();
    }

    private static int wrong = 0;
    private static int promise = 0;

    private static void eq(String label, Object got, Object want) {
        if (!want.equals(got)) {
            wrong++;
            System.out.println("promise " + promise + ": " + label + " answered " + got + ", due is " + want);
        }
    }

    private static void fails(String label, Class<?> want, Call call) {
        Object got;
        try {
            got = call.run();
        } catch (RuntimeException e) {
            got = e.getClass();
        }
        eq(label, got, want);
    }

    /** An index out of 0 to 2. */
    private static void index(String label, Call call) {
        fails(label, IndexOutOfBoundsException.class, call);
    }

    /** Another argument out of its range. */
    private static void range(String label, Call call) {
        fails(label, IllegalArgumentException.class, call);
    }

    private static String state(Rootwalk x) {
        StringBuilder out = new StringBuilder();
        for (int i = 0; i < 3; i++) {
            out.append(x.part(i, 0)).append('@').append(x.part(i, 1)).append(' ');
        }
        for (int i = 0; i < 3; i++) {
            out.append(x.pairBase(i)).append(':').append(x.pairText(i, true)).append(',').append(x.pairText(i, false)).append(' ');
        }
        for (int i = 0; i < 3; i++) {
            out.append(x.splitNumber(i, 0)).append('#').append(x.splitNumber(i, 7)).append(' ');
        }
        for (int i = 0; i < 5; i++) {
            out.append(x.house(i)).append(i < 4 ? "/" : "");
        }
        return out.toString();
    }

    private static Rootwalk walkAt(int base, int step) {
        Rootwalk x = new Rootwalk();
        x.open(0, base);
        for (int i = 0; i < step; i++) {
            x.forth(0, 1);
        }
        return x;
    }

    private static Rootwalk pairOf(int base, int left, int right) {
        Rootwalk x = new Rootwalk();
        x.put(0, base, left, right);
        return x;
    }

    public static void main(String[] args) {
        fresh();
        walkActs();
        walkQuestions();
        walkNearness();
        bases();
        pairActs();
        pairLimits();
        pairQuestions();
        ranks();
        splitActs();
        splitQuestions();
        whole();
        System.out.println(wrong == 0 ? "PromiseTests: all promises hold" : "PromiseTests: " + wrong + " wrong answers");
        if (wrong != 0) {
            System.exit(1);
        }
    }

    private static void fresh() {
        promise = 1;
        Rootwalk x = new Rootwalk();
        eq("state", state(x), "2@0 2@0 2@0 2:1,0 2:1,0 2:1,0 5#0 5#0 5#0 0/0/0/0/0");
        eq("split", x.splitNumber(2, 3) + " " + x.splitNumber(2, 4) + " " + x.splitNumber(2, 5) + " " + x.splitNumber(2, 6), "5 2 0 1");
        Rootwalk other = new Rootwalk();
        other.open(0, 3);
        eq("objects are apart", x.part(0, 0), 2);
    }

    private static void walkActs() {
        Rootwalk x = new Rootwalk();
        promise = 2;
        eq("open(1, 99)", x.open(1, 99), 9);
        eq("open(2, 2)", x.open(2, 2), 1);
        x.forth(1, 3);
        eq("open(1, 61) again", x.open(1, 61), 7);
        eq("at step 0", state(x), "2@0 61@0 2@0 2:1,0 2:1,0 2:1,0 5#0 5#0 5#0 4/0/0/0/0");
        for (int square : new int[] {0, 1, 4, 9, 16, 25, 36, 49, 64, 81, 100, 121, -3, Integer.MIN_VALUE, Integer.MAX_VALUE}) {
            range("open(0, " + square + ")", () -> x.open(0, square));
        }
        index("open(3, 4)", () -> x.open(3, 4));
        index("open(-1, 3)", () -> x.open(-1, 3));

        promise = 3;
        eq("forth(1, 6)", x.forth(1, 6), 6);
        eq("forth(1, 1)", x.forth(1, 1), 7);
        x.forth(1, 6);
        x.forth(1, 6);
        eq("forth(1, 6) above 24", x.forth(1, 6), -9);
        eq("it did not go", x.part(1, 1), 19);
        eq("forth(1, 5) to 24", x.forth(1, 5), 24);
        eq("forth(1, 1) above 24", x.forth(1, 1), -9);
        range("forth(1, 0)", () -> x.forth(1, 0));
        range("forth(1, 7) ahead of -9", () -> x.forth(1, 7));
        range("forth(0, max)", () -> x.forth(0, Integer.MAX_VALUE));
        index("forth(3, 0)", () -> x.forth(3, 0));
        eq("house(0), house(3)", x.house(0) + " " + x.house(3), "9 2");

        promise = 4;
        eq("back(1)", x.back(1), 23);
        eq("back(2) at 0", x.back(2), -9);
        index("back(3)", () -> x.back(3));
        index("back(-1)", () -> x.back(-1));
        eq("house(0), house(3)", x.house(0) + " " + x.house(3), "10 3");

        promise = 5;
        eq("walkCopy(1, 0)", x.walkCopy(1, 0), 1);
        eq("walkCopy(1, 0) again", x.walkCopy(1, 0), 0);
        x.back(0);
        eq("walkCopy, another STEP", x.walkCopy(1, 0), 1);
        x.open(0, 2);
        x.open(2, 3);
        eq("walkCopy, another BASE", x.walkCopy(2, 0), 1);
        eq("walkCopy on itself", x.walkCopy(1, 1), 0);
        eq("taken", x.part(0, 0) + "@" + x.part(0, 1) + " " + x.part(1, 0) + "@" + x.part(1, 1), "3@0 61@23");
        index("walkCopy(0, 3)", () -> x.walkCopy(0, 3));
        index("walkCopy(-1, 0)", () -> x.walkCopy(-1, 0));
        eq("house(0)", x.house(0), 18);
    }

    private static void walkQuestions() {
        promise = 6;
        Rootwalk x = walkAt(61, 3);
        eq("parts", x.part(0, 0) + " " + x.part(0, 1) + " " + x.part(0, 2) + " " + x.part(0, 3) + " " + x.part(0, 4) + " " + x.part(0, 5),
            "61 3 7 7 4 3");
        eq("parts at 0", x.part(1, 3) + " " + x.part(1, 4) + " " + x.part(1, 5), "0 1 1");
        range("part(0, 6)", () -> x.part(0, 6));
        range("part(0, -1)", () -> x.part(0, -1));
        index("part(3, 6)", () -> x.part(3, 6));

        promise = 7;
        Rootwalk far = walkAt(82, 24);
        eq("P", far.walkText(0, 0, 10), "13005855469267585583459383112409");
        eq("P by 16", far.walkText(0, 0, 16), "a4282f7e6c9eab55a8b24bf2d9");
        eq("Q", far.walkText(0, 1, 10), "1436256467380108914901151473801");
        eq("P(0)", x.walkText(1, 0, 2), "1");
        eq("Q(0)", x.walkText(1, 1, 16), "1");
        eq("P(-1)", x.walkText(1, 2, 10), "1");
        eq("Q(-1)", x.walkText(1, 3, 10), "0");
        eq("P(3) of 61 by 2", x.walkText(0, 0, 2), "1111101");
        eq("P(2) of 61 by 16", x.walkText(0, 2, 16), "27");
        eq("Q(3) of 61 by 11", x.walkText(0, 1, 11), "15");
        range("which 4", () -> x.walkText(0, 4, 10));
        range("which -1", () -> x.walkText(0, -1, 10));
        range("radix 1", () -> x.walkText(0, 0, 1));
        range("radix 0", () -> x.walkText(0, 0, 0));
        range("radix 17", () -> x.walkText(0, 0, 17));
        index("walk 3, radix 1", () -> x.walkText(3, 0, 1));

        promise = 8;
        eq("of 61 at 3", x.test(0, 0) + " " + x.test(0, 1) + " " + x.test(0, 2), "1 1 9");
        eq("of 2 at 0", x.test(1, 0) + " " + x.test(1, 1) + " " + x.test(1, 2), "1 -1 -1");
        eq("of 82 at 24", far.test(0, 0) + " " + far.test(0, 1) + " " + far.test(0, 2), "1 -1 -1");
        eq("NORM of 94 at 1", walkAt(94, 1).test(0, 2), 6);
        range("test(0, 3)", () -> x.test(0, 3));
        range("test(0, -1)", () -> x.test(0, -1));
        index("test(-1, 3)", () -> x.test(-1, 3));

        promise = 9;
        eq("TOP 125", x.walkBits(0, true, 0) + " " + x.walkBits(0, true, 1) + " " + x.walkBits(0, true, 2), "7 6 0");
        eq("BOTTOM 16", x.walkBits(0, false, 0) + " " + x.walkBits(0, false, 1) + " " + x.walkBits(0, false, 2), "5 1 4");
        eq("TOP of 82 at 24", far.walkBits(0, true, 0), 104);
        range("walkBits what 3", () -> x.walkBits(0, true, 3));
        range("walkBits what -1", () -> x.walkBits(0, false, -1));
        index("walkBits walk 3", () -> x.walkBits(3, true, 3));

        promise = 10;
        eq("125, place 0", x.bit(0, true, 0), true);
        eq("125, place 1", x.bit(0, true, 1), false);
        eq("125, place 6", x.bit(0, true, 6), true);
        eq("125, place 7", x.bit(0, true, 7), false);
        eq("16, place 4", x.bit(0, false, 4), true);
        eq("16, place 0", x.bit(0, false, 0), false);
        eq("82, place 103", far.bit(0, true, 103), true);
        eq("82, place 104", far.bit(0, true, 104), false);
        eq("82, place 119", far.bit(0, true, 119), false);
        range("place 120", () -> x.bit(0, true, 120));
        range("place -1", () -> x.bit(0, true, -1));
        index("walk 3, place 120", () -> x.bit(3, true, 120));

        promise = 11;
        for (int radix = 0; radix <= 16; radix++) {
            if (radix != 1) {
                eq("radix " + radix, far.isRead(0, radix) && x.isRead(0, radix) && x.isRead(1, radix), true);
            }
        }
        range("radix 1", () -> x.isRead(0, 1));
        range("radix -1", () -> x.isRead(0, -1));
        range("radix 17", () -> x.isRead(0, 17));
        index("walk 3, radix 1", () -> x.isRead(3, 1));
    }

    private static void walkNearness() {
        promise = 12;
        for (int step = 0; step <= 24; step++) {
            Rootwalk x = walkAt(82, step);
            eq("isNear at " + step, x.isNear(0, 1) + " " + x.isNear(0, 2) + " " + x.isNear(0, 3), "true false false");
        }
        Rootwalk x = walkAt(61, 1);
        range("times 0", () -> x.isNear(0, 0));
        range("times 4", () -> x.isNear(0, 4));
        index("walk -1, times 0", () -> x.isNear(-1, 0));

        promise = 13;
        eq("61 at 0", x.decimals(1, 0), "1");
        eq("61 at 1", x.decimals(0, 0) + " " + x.decimals(0, 16), "8 80000000000000000");
        eq("61 at 5", walkAt(61, 5).decimals(0, 16), "78103448275862068");
        eq("99 at 1 is 10", walkAt(99, 1).decimals(0, 16), "100000000000000000");
        eq("2 at 2", walkAt(2, 2).decimals(0, 3), "1400");
        range("places 17", () -> x.decimals(0, 17));
        range("places -1", () -> x.decimals(0, -1));
        index("walk 3, places 17", () -> x.decimals(3, 17));

        promise = 14;
        eq("none", x.alike(0), -1);
        eq("whole part alone", walkAt(61, 0).alike(0), 0);
        eq("1.400 and 1.414", walkAt(2, 2).alike(0), 1);
        eq("all", walkAt(61, 24).alike(0), 16);
        eq("7.8103 and 7.8102", walkAt(61, 5).alike(0), 3);
        index("alike(3)", () -> x.alike(3));
        index("alike(-1)", () -> x.alike(-1));
    }

    private static void bases() {
        Rootwalk x = new Rootwalk();
        promise = 15;
        eq("61", x.rootText(61, 16), "78102496759066543");
        eq("99", x.rootText(99, 16) + " " + x.rootText(99, 0), "99498743710661995 9");
        eq("squares", x.rootText(1, 0) + " " + x.rootText(49, 2) + " " + x.rootText(81, 16), "1 700 90000000000000000");
        eq("2", x.rootText(2, 5), "141421");
        range("base 0", () -> x.rootText(0, 3));
        range("base 100", () -> x.rootText(100, 3));
        range("places 17", () -> x.rootText(2, 17));
        range("places -1", () -> x.rootText(2, -1));

        promise = 16;
        eq("period", x.period(2) + " " + x.period(3) + " " + x.period(7) + " " + x.period(61) + " " + x.period(94), "1 2 4 11 16");
        range("period(4)", () -> x.period(4));
        range("period(1)", () -> x.period(1));
        range("period(100)", () -> x.period(100));

        promise = 17;
        eq("2", x.periodText(2), "1 2");
        eq("7", x.periodText(7), "2 1 1 1 4");
        eq("61", x.periodText(61), "7 1 4 3 1 2 2 1 3 4 1 14");
        range("periodText(81)", () -> x.periodText(81));
        range("periodText(0)", () -> x.periodText(0));

        promise = 18;
        eq("2", x.solution(2, true) + " " + x.solution(2, false), "3 2");
        eq("3", x.solution(3, true) + " " + x.solution(3, false), "2 1");
        eq("61", x.solution(61, true) + " " + x.solution(61, false), "1766319049 226153980");
        eq("94", x.solution(94, true) + " " + x.solution(94, false), "2143295 221064");
        range("solution(9)", () -> x.solution(9, true));
        range("solution(-2)", () -> x.solution(-2, false));

        promise = 19;
        eq("2", x.minus(2, true) + " " + x.minus(2, false), "1 1");
        eq("61", x.minus(61, true) + " " + x.minus(61, false), "29718 3805");
        eq("3 has none", x.minus(3, true) + x.minus(3, false), "");
        range("minus(64)", () -> x.minus(64, true));
        range("minus(101)", () -> x.minus(101, false));

        promise = 20;
        eq("2", x.middle(2), "1 1");
        eq("13", x.middle(13), "2 3");
        eq("61", x.middle(61), "6 5");
        eq("7 has none", x.middle(7), "");
        range("middle(36)", () -> x.middle(36));
        range("middle(min)", () -> x.middle(Integer.MIN_VALUE));
        eq("questions count nowhere", state(x), state(new Rootwalk()));
    }

    private static void pairActs() {
        Rootwalk x = new Rootwalk();
        promise = 21;
        eq("put", x.put(0, 3, -1000, 1000), 1);
        eq("put the SAME", x.put(0, 3, -1000, 1000), 0);
        eq("put another BASE", x.put(0, 5, -1000, 1000), 1);
        eq("put another LEFT", x.put(0, 5, 1000, 1000), 1);
        eq("put another RIGHT", x.put(0, 5, 1000, -1000), 1);
        eq("put nothing", x.put(1, 5, 0, 0), 1);
        eq("state", state(x), "2@0 2@0 2@0 5:1000,-1000 5:0,0 2:1,0 5#0 5#0 5#0 0/6/0/0/0");
        range("left 1001", () -> x.put(0, 3, 1001, 0));
        range("left -1001", () -> x.put(0, 3, -1001, 0));
        range("right 1001", () -> x.put(0, 3, 0, 1001));
        range("right min", () -> x.put(0, 3, 0, Integer.MIN_VALUE));
        range("base 4", () -> x.put(0, 4, 0, 0));
        index("pair 3, base 4", () -> x.put(3, 4, 5000, 0));

        promise = 22;
        x.open(1, 61);
        x.forth(1, 3);
        eq("take", x.take(1, 2), 1);
        eq("take again", x.take(1, 2), 0);
        eq("taken", x.pairBase(2) + " " + x.pairText(2, true) + " " + x.pairText(2, false), "61 125 16");
        eq("house", x.house(0) + " " + x.house(1), "2 8");
        index("take(3, 0)", () -> x.take(3, 0));
        index("take(0, 3)", () -> x.take(0, 3));

        promise = 23;
        eq("least", x.least(1, 61), 1);
        eq("least again", x.least(1, 61), 0);
        eq("it is", x.pairBase(1) + " " + x.pairText(1, true) + " " + x.pairText(1, false), "61 1766319049 226153980");
        range("least(1, 16)", () -> x.least(1, 16));
        index("least(-1, 16)", () -> x.least(-1, 16));

        promise = 24;
        x.put(0, 2, 3, 2);
        x.put(1, 2, -1, 5);
        eq("compose", x.compose(0, 1, 2), 1);
        eq("PRODUCT", x.pairBase(2) + " " + x.pairText(2, true) + " " + x.pairText(2, false), "2 17 13");
        eq("compose again", x.compose(1, 0, 2), 0);
        eq("compose on itself", x.compose(0, 0, 0), 1);
        eq("its square", x.pairText(0, true) + " " + x.pairText(0, false), "17 12");
        eq("compose into a factor", x.compose(0, 1, 1), 1);
        eq("that PRODUCT", x.pairText(1, true) + " " + x.pairText(1, false), "103 73");
        x.put(1, 3, 1, 0);
        String was = state(x);
        eq("unlike BASES", x.compose(0, 1, 2), -9);
        eq("only the -9 is counted", state(x), was.replace("/0/0/0", "/0/1/0"));
        index("compose(3, 0, 0)", () -> x.compose(3, 0, 0));
        index("compose(0, -1, 0)", () -> x.compose(0, -1, 0));
        index("compose(0, 1, 3) ahead of -9", () -> x.compose(0, 1, 3));

        promise = 25;
        x.put(0, 3, 2, -1);
        eq("power 1", x.power(0, 1), 0);
        eq("power 5", x.power(0, 5), 1);
        eq("it is", x.pairBase(0) + " " + x.pairText(0, true) + " " + x.pairText(0, false), "3 362 -209");
        eq("power 0", x.power(0, 0), 1);
        eq("power 0 again", x.power(0, 0), 0);
        eq("it is one", x.pairBase(0) + " " + x.pairText(0, true) + " " + x.pairText(0, false), "3 1 0");
        range("power 6", () -> x.power(0, 6));
        range("power -1", () -> x.power(0, -1));
        index("power(3, 6)", () -> x.power(3, 6));

        promise = 26;
        x.put(0, 3, 2, -1);
        eq("mirror RIGHT", x.mirror(0, false) + ":" + x.pairText(0, true) + "," + x.pairText(0, false), "1:2,1");
        eq("mirror both", x.mirror(0, true) + ":" + x.pairText(0, true) + "," + x.pairText(0, false), "1:-2,-1");
        x.put(0, 3, 2, 0);
        eq("mirror 0", x.mirror(0, false) + ":" + x.pairText(0, true) + "," + x.pairText(0, false), "0:2,0");
        eq("mirror 0, both", x.mirror(0, true) + ":" + x.pairText(0, true) + "," + x.pairText(0, false), "1:-2,0");
        x.put(0, 3, 0, 0);
        eq("mirror nothing", x.mirror(0, true) + ":" + x.pairText(0, true) + "," + x.pairText(0, false), "0:0,0");
        index("mirror(3)", () -> x.mirror(3, true));

        promise = 27;
        x.put(0, 3, -84, 36);
        eq("by 12", x.divideBy(0, 12) + ":" + x.pairText(0, true) + "," + x.pairText(0, false), "1:-7,3");
        eq("by -1", x.divideBy(0, -1) + ":" + x.pairText(0, true) + "," + x.pairText(0, false), "1:7,-3");
        eq("by 1", x.divideBy(0, 1), 0);
        String before = state(x);
        eq("by 0", x.divideBy(0, 0), -9);
        eq("LEFT alone a multiple", x.divideBy(0, 7), -9);
        eq("RIGHT alone a multiple", x.divideBy(0, -3), -9);
        eq("neither", x.divideBy(0, 99), -9);
        eq("only -9 is counted", state(x), before.replace("/1/0", "/5/0"));
        x.put(0, 3, 0, -99);
        eq("0 is a multiple", x.divideBy(0, -99) + ":" + x.pairText(0, true) + "," + x.pairText(0, false), "1:0,1");
        range("by 100", () -> x.divideBy(0, 100));
        range("by -100", () -> x.divideBy(0, -100));
        index("divideBy(3, 100)", () -> x.divideBy(3, 100));

        promise = 28;
        eq("pairCopy", x.pairCopy(0, 1) + ":" + x.pairBase(1) + " " + x.pairText(1, true) + "," + x.pairText(1, false), "1:3 0,1");
        eq("pairCopy again", x.pairCopy(0, 1), 0);
        eq("pairCopy on itself", x.pairCopy(2, 2), 0);
        x.put(1, 3, 5, 5);
        eq("the other one stays", x.pairText(0, true) + "," + x.pairText(0, false), "0,1");
        index("pairCopy(3, 0)", () -> x.pairCopy(3, 0));
        index("pairCopy(0, 3)", () -> x.pairCopy(0, 3));
    }

    /** 2^many as LEFT of PAIR 0 over the BASE 2, from 2^9 * 2^many / 2^9. */
    private static Rootwalk twoTo(int many) {
        Rootwalk x = pairOf(2, 1, 0);
        for (int left = many; left > 0; left -= Math.min(9, left)) {
            x.put(1, 2, 1 << Math.min(9, left), 0);
            x.compose(0, 1, 0);
        }
        return x;
    }

    private static void pairLimits() {
        promise = 22;
        Rootwalk walked = walkAt(82, 18);
        eq("79 BITS", walked.take(0, 1), 1);
        walked.forth(0, 1);
        String was = state(walked);
        eq("TOP has 83 BITS, BOTTOM 80", walked.take(0, 1), -9);
        eq("only -9 is counted", state(walked), was.replace("/0/0/0", "/0/1/0"));
        walked.forth(0, 5);
        eq("104 and 101 BITS", walked.take(0, 2), -9);

        promise = 24;
        Rootwalk x = twoTo(79);
        eq("2^79 has 80 BITS", x.pairBits(0, true, 0) + " " + x.pairText(0, true), "80 604462909807314587353088");
        x.put(1, 2, 2, 0);
        String ahead = state(x);
        eq("2^80 has 81", x.compose(0, 1, 2), -9);
        x.mirror(0, true);
        eq("-2^80 has 81, too", x.compose(0, 1, 0), -9);
        x.mirror(0, true);
        eq("nothing else changed", state(x).substring(0, 60), ahead.substring(0, 60));
        x.put(1, 2, 0, 2);
        eq("RIGHT alone has 81", x.compose(0, 1, 2), -9);
        x.put(1, 2, 0, 1);
        eq("RIGHT has 80", x.compose(0, 1, 2) + " " + x.pairBits(2, false, 0), "1 80");

        promise = 25;
        Rootwalk y = twoTo(40);
        eq("2^80 by power", y.power(0, 2), -9);
        eq("2^200", y.power(0, 5), -9);
        eq("it stays", y.pairText(0, true), "1099511627776");
        Rootwalk z = twoTo(26);
        eq("2^78", z.power(0, 3) + " " + z.pairText(0, true), "1 302231454903657293676544");
        eq("2^390", z.power(0, 5), -9);
        eq("power 0", z.power(0, 0) + " " + z.pairText(0, true), "1 1");
        Rootwalk wide = new Rootwalk();
        wide.open(0, 82);
        wide.forth(0, 6);
        wide.forth(0, 6);
        wide.forth(0, 6);
        wide.take(0, 0);
        eq("395 BITS", wide.power(0, 5), -9);
        eq("house", wide.house(1) + " " + wide.house(3), "1 1");
    }

    private static void pairQuestions() {
        Rootwalk x = new Rootwalk();
        x.put(0, 61, -12, 1000);
        x.put(1, 3, 5, 0);
        x.put(2, 2, 5, -7);
        promise = 29;
        eq("pairBase", x.pairBase(0) + " " + x.pairBase(1) + " " + x.pairBase(2), "61 3 2");
        index("pairBase(3)", () -> x.pairBase(3));
        index("pairBase(-1)", () -> x.pairBase(-1));

        promise = 30;
        eq("pairText", x.pairText(0, true) + " " + x.pairText(0, false) + " " + x.pairText(1, false), "-12 1000 0");
        eq("80 BITS below 0", minus79(), "-604462909807314587353088");
        index("pairText(3)", () -> x.pairText(3, true));
        index("pairText(-1)", () -> x.pairText(-1, false));

        promise = 31;
        eq("pairNorm", x.pairNorm(0) + " " + x.pairNorm(1) + " " + x.pairNorm(2), "-60999856 25 -73");
        eq("of 2^79", twoTo(79).pairNorm(0), "365375409332725729550921208179070754913983135744");
        eq("of nothing", pairOf(2, 0, 0).pairNorm(0), "0");
        index("pairNorm(3)", () -> x.pairNorm(3));

        promise = 32;
        eq("-12", x.pairBits(0, true, 0) + " " + x.pairBits(0, true, 1) + " " + x.pairBits(0, true, 2), "4 2 2");
        eq("1000", x.pairBits(0, false, 0) + " " + x.pairBits(0, false, 1) + " " + x.pairBits(0, false, 2), "10 6 3");
        eq("0", x.pairBits(1, false, 0) + " " + x.pairBits(1, false, 1) + " " + x.pairBits(1, false, 2), "0 0 -1");
        eq("2^79", twoTo(79).pairBits(0, true, 1) + " " + twoTo(79).pairBits(0, true, 2), "1 79");
        range("what 3", () -> x.pairBits(0, true, 3));
        range("what -1", () -> x.pairBits(0, true, -1));
        index("pair 3, what 3", () -> x.pairBits(3, true, 3));

        promise = 34;
        eq("LEFT", x.order(0, 1, true) + " " + x.order(1, 0, true) + " " + x.order(1, 2, true), "-1 1 0");
        eq("RIGHT", x.order(0, 1, false) + " " + x.order(2, 1, false) + " " + x.order(1, 1, false), "1 -1 0");
        eq("both below 0", negatives().order(0, 1, true) + " " + negatives().order(1, 0, true), "-1 1");
        index("order(3, 0)", () -> x.order(3, 0, true));
        index("order(0, -1)", () -> x.order(0, -1, false));

        promise = 35;
        eq("isSame of itself", x.isSame(2, 2), true);
        eq("another one", x.isSame(1, 2), false);
        x.put(2, 2, 5, 0);
        eq("another BASE alone", x.isSame(1, 2), false);
        x.put(2, 3, 5, 1);
        eq("another RIGHT alone", x.isSame(1, 2), false);
        x.put(2, 3, -5, 0);
        eq("another LEFT alone", x.isSame(1, 2), false);
        x.put(2, 3, 5, 0);
        eq("the SAME", x.isSame(1, 2), true);
        index("isSame(3, 0)", () -> x.isSame(3, 0));
        index("isSame(0, 3)", () -> x.isSame(0, 3));

        promise = 36;
        x.put(2, 2, 6, -7);
        eq("LEFT", x.extreme(true, true) + " " + x.extreme(true, false), "6 -12");
        eq("RIGHT", x.extreme(false, true) + " " + x.extreme(false, false), "1000 -7");
        eq("below 0", negatives().extreme(true, true) + " " + negatives().extreme(true, false), "-3 -30");
    }

    private static String minus79() {
        Rootwalk x = twoTo(79);
        x.mirror(0, true);
        return x.pairText(0, true);
    }

    private static Rootwalk negatives() {
        Rootwalk x = pairOf(2, -30, 0);
        x.put(1, 2, -3, 0);
        x.put(2, 2, -4, 0);
        return x;
    }

    private static void ranks() {
        promise = 33;
        Rootwalk x = new Rootwalk();
        eq("at first", x.rank(0), 0);
        x.put(0, 2, -1, 0);
        eq("-1, 0", x.rank(0), 0);
        x.put(0, 2, 3, 2);
        eq("LEAST SOLUTION", x.rank(0), 1);
        x.put(0, 2, -17, 12);
        eq("its square, mirrored", x.rank(0), 2);
        x.put(0, 2, 1, 1);
        eq("NORM -1", x.rank(0), -1);
        x.put(0, 2, 0, 0);
        eq("NORM 0", x.rank(0), -1);
        x.least(0, 3);
        x.pairCopy(0, 1);
        for (int i = 2; i <= 42; i++) {
            x.compose(0, 1, 1);
            eq("power " + i, x.rank(1), i);
        }
        eq("43 is too long", x.compose(0, 1, 1), -9);
        eq("it stays", x.rank(1), 42);
        index("rank(3)", () -> x.rank(3));
        index("rank(-1)", () -> x.rank(-1));
    }

    private static void splitActs() {
        Rootwalk x = new Rootwalk();
        promise = 37;
        eq("13", x.split(0, 13), 2);
        eq("17", x.split(1, 17), 3);
        eq("73", x.split(2, 73), 5);
        eq("997", x.split(2, 997), 2);
        eq("241", x.split(2, 241), 7);
        eq("5", x.split(2, 5), 2);
        for (int number : new int[] {6, 7, 9, 11, 21, 25, 65, 85, 993, 995, 996}) {
            eq("split(0, " + number + ")", x.split(0, number), -9);
        }
        eq("it stays", x.splitNumber(0, 0), 13);
        eq("house", x.house(2) + " " + x.house(3), "6 11");
        range("4", () -> x.split(0, 4));
        range("998", () -> x.split(0, 998));
        range("-13", () -> x.split(0, -13));
        index("split(3, 4)", () -> x.split(3, 4));
        index("split(-1, 13)", () -> x.split(-1, 13));

        promise = 38;
        x.split(0, 29);
        eq("29", numbers(x, 0), "29 2 12 29 12 0 1 0");
        eq("step 1", x.euclid(0) + ": " + numbers(x, 0), "5: 29 2 12 12 5 1 -2 1");
        eq("step 2", x.euclid(0) + ": " + numbers(x, 0), "2: 29 2 12 5 2 -2 5 2");
        eq("step 3", x.euclid(0) + ": " + numbers(x, 0), "1: 29 2 12 2 1 5 -12 3");
        eq("step 4", x.euclid(0) + ": " + numbers(x, 0), "0: 29 2 12 1 0 -12 29 4");
        eq("no step", x.euclid(0) + ": " + numbers(x, 0), "-9: 29 2 12 1 0 -12 29 4");
        eq("house", x.house(2) + " " + x.house(3), "11 12");
        index("euclid(3)", () -> x.euclid(3));
        index("euclid(-1)", () -> x.euclid(-1));

        promise = 39;
        eq("SETTLED behind its way", x.settle(0), 0);
        eq("this counts", x.house(2), 12);
        x.split(0, 29);
        eq("settle", x.settle(0) + ": " + numbers(x, 0), "2: 29 2 12 5 2 -2 5 2");
        eq("again", x.settle(0) + ": " + numbers(x, 0), "0: 29 2 12 5 2 -2 5 2");
        x.split(0, 29);
        x.euclid(0);
        eq("one is made", x.settle(0), 1);
        index("settle(3)", () -> x.settle(3));
        index("settle(-1)", () -> x.settle(-1));
    }

    private static String numbers(Rootwalk x, int split) {
        StringBuilder out = new StringBuilder();
        for (int what = 0; what <= 7; what++) {
            out.append(what == 0 ? "" : " ").append(x.splitNumber(split, what));
        }
        return out.toString();
    }

    private static void splitQuestions() {
        Rootwalk x = new Rootwalk();
        x.split(1, 13);
        x.split(2, 41);
        promise = 40;
        eq("5", numbers(x, 0), "5 2 2 5 2 0 1 0");
        eq("41", numbers(x, 2), "41 3 9 41 9 0 1 0");
        range("what 8", () -> x.splitNumber(0, 8));
        range("what -1", () -> x.splitNumber(0, -1));
        index("splitNumber(3, 8)", () -> x.splitNumber(3, 8));

        promise = 41;
        eq("ways", x.way(0) + ", " + x.way(1) + ", " + x.way(2), "2 1, 3 2, 5 4");
        eq("no step was made", numbers(x, 2), "41 3 9 41 9 0 1 0");
        for (int step = 0; step < 4; step++) {
            x.euclid(2);
        }
        eq("no step is left", x.splitNumber(2, 4), 0);
        eq("way behind the last step", x.way(2), "5 4");
        index("way(3)", () -> x.way(3));
        index("way(-1)", () -> x.way(-1));

        promise = 42;
        eq("5 and 13", x.product(0, 1), "8 1 4 7");
        eq("13 and 5", x.product(1, 0), "8 1 4 7");
        eq("13 and 41", x.product(1, 2), "23 2 7 22");
        eq("5 and 5", x.product(0, 0), "5 0 3 4");
        index("product(3, 0)", () -> x.product(3, 0));
        index("product(0, 3)", () -> x.product(0, 3));

        promise = 43;
        eq("of 13", x.symbol(1, 4) + " " + x.symbol(1, 2) + " " + x.symbol(1, 26) + " " + x.symbol(1, 0) + " " + x.symbol(1, -13), "1 -1 0 0 0");
        eq("of 13, below 0", x.symbol(1, -1) + " " + x.symbol(1, -2) + " " + x.symbol(1, -999) + " " + x.symbol(1, 999), "1 -1 -1 -1");
        range("1000", () -> x.symbol(1, 1000));
        range("-1000", () -> x.symbol(1, -1000));
        index("symbol(3, 1000)", () -> x.symbol(3, 1000));

        promise = 44;
        eq("of 13", x.inverse(1, 1) + " " + x.inverse(1, 2) + " " + x.inverse(1, 12) + " " + x.inverse(1, 5), "1 7 12 8");
        eq("multiples", x.inverse(1, 0) + " " + x.inverse(1, 39) + " " + x.inverse(1, -13), "0 0 0");
        eq("below 0", x.inverse(1, -1) + " " + x.inverse(1, -2) + " " + x.inverse(1, -11), "12 6 7");
        range("1000", () -> x.inverse(1, 1000));
        range("-1000", () -> x.inverse(1, -1000));
        index("inverse(-1, 1000)", () -> x.inverse(-1, 1000));

        promise = 45;
        eq("0, 1", x.isPrime(0) || x.isPrime(1), false);
        eq("2, 3, 5, 7, 997", x.isPrime(2) && x.isPrime(3) && x.isPrime(5) && x.isPrime(7) && x.isPrime(997), true);
        eq("4, 9, 961, 999", x.isPrime(4) || x.isPrime(9) || x.isPrime(961) || x.isPrime(999), false);
        range("-1", () -> x.isPrime(-1));
        range("1000", () -> x.isPrime(1000));
    }

    private static void whole() {
        promise = 46;
        Rootwalk x = new Rootwalk();
        x.open(0, 3);
        x.walkCopy(0, 0);
        x.take(0, 1);
        x.pairCopy(0, 0);
        x.mirror(0, false);
        x.settle(0);
        x.back(0);
        x.split(0, 6);
        x.divideBy(0, 0);
        range("throws count nowhere", () -> x.open(0, 4));
        index("throws count nowhere", () -> x.settle(4));
        x.knock();
        eq("house", x.house(0) + " " + x.house(1) + " " + x.house(2) + " " + x.house(3) + " " + x.house(4), "2 3 1 3 1");
        range("house(5)", () -> x.house(5));
        range("house(-1)", () -> x.house(-1));

        promise = 47;
        eq("knock", x.knock() + " " + x.knock() + " " + x.house(4), "2 3 3");
        eq("it is no ACT", x.house(0) + " " + x.house(1) + " " + x.house(2) + " " + x.house(3), "2 3 1 3");

        promise = 48;
        for (int base = 2; base <= 99; base++) {
            if (Math.sqrt(base) != Math.floor(Math.sqrt(base))) {
                Rootwalk y = walkAt(base, base % 25);
                y.take(0, 2);
                y.put(1, base, 0, 0);
                y.split(1, 997);
                y.euclid(1);
                eq("isSound, base " + base, y.isSound(), true);
            }
        }

        promise = 49;
        // A new object's, told step by step from the promise's sequence
        long d = 7685;
        int[] walk = {2, 0, 1, 0, 1, 1, 1, 1, 1, 0, -1, -1};
        int[] pair = {2, 1, 0, 1, 0};
        int[] split = {5, 2, 2, 5, 2, 0, 1, 0};
        int[][] all = {walk, walk, walk, pair, pair, pair, split, split, split, {0, 0, 0, 0, 0, 1}};
        for (int[] row : all) {
            for (int v : row) {
                d = d * 31 + v;
            }
        }
        eq("of a new object", new Rootwalk().digest(), d);
        Rootwalk y = new Rootwalk();
        y.knock();
        eq("of one that was knocked at", y.digest(), d + 31);
        Rootwalk z = twoTo(79);
        Rootwalk w = twoTo(79);
        w.mirror(0, true);
        w.mirror(0, true);
        eq("it changes nothing", state(z), afterDigest(z));
        eq("it counts the ACTS", w.digest() - z.digest(), 2L * 31 * 31 * 31 * 31);
    }

    private static String afterDigest(Rootwalk x) {
        x.digest();
        return state(x);
    }
}
