import java.io.IOException;
import java.nio.file.Files;
import java.nio.file.Path;
import java.util.ArrayList;
import java.util.HashSet;
import java.util.List;
import java.util.Set;

/**
 * What the tests of edges share. Each test begins with sentence(), which holds it against the document: a
 * test of words that do not stand there is wrong itself. No object is asked for more than 512 calls.
 */
final class Edge {
    interface Call {
        Object on(Rootwalk x);
    }

    interface CallOf {
        Object on(Rootwalk x, int value);
    }

    static final int MIN = Integer.MIN_VALUE;
    static final int MAX = Integer.MAX_VALUE;
    /** The promise that stands for the Description. */
    static final int DESCRIPTION = 0;

    private static final String DOC = read();
    private static final Set<String> TOLD = new HashSet<>();
    private static int wrong;
    private static int tests;
    private static String now = "";

    private Edge() {
    }

    private static String read() {
        try {
            return Files.readString(Path.of("../shared/DOC.md"));
        } catch (IOException e) {
            throw new IllegalStateException("../shared/DOC.md is not read", e);
        }
    }

    // ---- sentences

    /** The Description, or a promise, on one line. */
    private static String section(int promise) {
        String head = promise == DESCRIPTION ? "## Description" : "## Promise " + promise + ":";
        int from = DOC.indexOf(head);
        int next = DOC.indexOf("\n## ", from);
        return from < 0 ? "" : onOneLine(DOC.substring(from, next < 0 ? DOC.length() : next));
    }

    private static String onOneLine(String text) {
        return text.replaceAll("\\s+", " ");
    }

    /** Begins the test of a sentence of a promise, or of the Description. */
    static void sentence(int promise, String quote) {
        tests++;
        now = (promise == DESCRIPTION ? "Description" : "promise " + promise) + ", \"" + quote + "\"";
        TOLD.add(promise + " " + onOneLine(quote));
        eq("the sentence stands in the document", section(promise).contains(onOneLine(quote)), true);
    }

    /** The lines of the promises that tell an exception or an answer at an edge, and that no test has told. */
    static List<String> untold() {
        List<String> found = new ArrayList<>();
        for (int promise = 1; DOC.contains("## Promise " + promise + ":"); promise++) {
            int from = DOC.indexOf("## Promise " + promise + ":");
            int next = DOC.indexOf("\n## ", from);
            for (String line : DOC.substring(from, next).split("\n")) {
                boolean isEdge = line.startsWith("Throws ") || line.startsWith("Returns ") && line.matches(".*( if |-9|-1|\"\"|rounded).*");
                if (isEdge && !TOLD.contains(promise + " " + onOneLine(line))) {
                    found.add("promise " + promise + ": " + line);
                }
            }
        }
        return found;
    }

    static int wrongOnes() {
        return wrong;
    }

    static String count() {
        return tests + " tests of " + TOLD.size() + " sentences";
    }

    // ---- what is due

    static void eq(String label, Object got, Object want) {
        if (!want.equals(got)) {
            wrong++;
            System.out.println(now + ": " + label + " answered " + got + ", due is " + want);
        }
    }

    /** What a call answers, or the class of what it throws. */
    static Object answer(Call call, Rootwalk x) {
        try {
            return call.on(x);
        } catch (RuntimeException e) {
            return e.getClass();
        }
    }

    /** The call throws just this, and all is as it was. Tells whether it is so. */
    static boolean refuses(Class<?> exception, String label, Rootwalk x, Call call) {
        int wrongBefore = wrong;
        String before = state(x);
        eq(label, answer(call, x), exception);
        eq(label + " changes", state(x), before);
        return wrong == wrongBefore;
    }

    /** The ACT tells -9, and nothing but the count of these is another one. */
    static void tellsMinusNine(String label, Rootwalk x, Call call) {
        String before = stateButRefusals(x);
        int count = x.house(3);
        eq(label, answer(call, x), -9);
        eq(label + ", the -9 counted", x.house(3), count + 1);
        eq(label + " changes else", stateButRefusals(x), before);
    }

    /** The ACT is done: it answers so, and one more is counted in this house alone. */
    static void isDone(String label, Rootwalk x, int house, Call call, Object want) {
        String due = counts(x, house, 1);
        eq(label, answer(call, x), want);
        eq(label + ", the ACTS counted", counts(x, house, 0), due);
    }

    private static String counts(Rootwalk x, int house, int more) {
        StringBuilder out = new StringBuilder();
        for (int what = 0; what <= 4; what++) {
            out.append(x.house(what) + (what == house ? more : 0)).append(' ');
        }
        return out.toString();
    }

    // ---- whole ranges

    /** An index: 0 to 2 are let, any other one is not. */
    static void index(int promise, String quote, CallOf call) {
        sentence(promise, quote);
        lets(call, 0, 1, 2);
        refusesEach(IndexOutOfBoundsException.class, call, -1, 3, 4, MIN, MAX);
    }

    /** A number: low to high are let, any other one is not. */
    static void range(int promise, String quote, int low, int high, CallOf call) {
        sentence(promise, quote);
        for (int value = low; value <= high; value += high - low > 200 ? 37 : 1) {
            lets(call, value);
        }
        lets(call, high - 1, high);
        refusesEach(IllegalArgumentException.class, call, low - 1, low - 2, high + 1, high + 2, MIN, MAX);
    }

    /** A BASE: just those are let. */
    static void base(int promise, String quote, CallOf call) {
        sentence(promise, quote);
        for (int n = 2; n <= 99; n++) {
            if (!isSquare(n)) {
                lets(call, n);
            }
        }
        refusesEach(IllegalArgumentException.class, call, 1, 0, -1, -2, 100, 101, 121, MIN, MAX);
        refusesEach(IllegalArgumentException.class, call, 4, 9, 16, 25, 36, 49, 64, 81);
    }

    /** A RADIX. */
    static void radix(int promise, String quote, CallOf call) {
        range(promise, quote, 2, 16, call);
        refusesEach(IllegalArgumentException.class, call, 0, 1, 17);
    }

    static boolean isSquare(int n) {
        int root = (int) Math.sqrt(n);
        return root * root == n;
    }

    private static void lets(CallOf call, int... values) {
        for (int value : values) {
            Object got = answer(x -> call.on(x, value), busy());
            eq("with " + value + " throws", got instanceof Class, false);
        }
    }

    private static void refusesEach(Class<?> exception, CallOf call, int... values) {
        for (int value : values) {
            // a call that lets what is just outside may go on and on with the greatest number there is
            if (!refuses(exception, "with " + value, busy(), x -> call.on(x, value))) {
                return;
            }
        }
    }

    // ---- objects

    /** One that has left its first state everywhere: walks at both ends, a long pair, a zero one, a split at its end. */
    static Rootwalk busy() {
        Rootwalk x = new Rootwalk();
        x.open(0, 61);
        x.open(1, 82);
        x.open(2, 5);
        for (int i = 0; i < 4; i++) {
            x.forth(0, 6);
        }
        x.forth(2, 5);
        x.forth(0, 1);
        x.back(1);
        x.take(0, 0);
        x.put(1, 61, -12, 1000);
        x.put(2, 7, 0, 0);
        x.split(0, 29);
        x.split(2, 997);
        for (int i = 0; i < 4; i++) {
            x.euclid(0);
        }
        x.euclid(2);
        x.knock();
        return x;
    }

    static Rootwalk walkAt(int base, int step) {
        Rootwalk x = new Rootwalk();
        x.open(0, base);
        go(x, 0, step);
        return x;
    }

    static void go(Rootwalk x, int walk, int steps) {
        for (int left = steps; left > 0; left -= Math.min(6, left)) {
            x.forth(walk, Math.min(6, left));
        }
    }

    static Rootwalk pairOf(int base, int left, int right) {
        Rootwalk x = new Rootwalk();
        x.put(0, base, left, right);
        return x;
    }

    /** PAIR 0 with the product of the factors as its LEFT, and 0 as its RIGHT; PAIR 1 is 1, 0. */
    static Rootwalk leftOf(int base, int... factors) {
        Rootwalk x = pairOf(base, 1, 0);
        for (int factor : factors) {
            x.put(1, base, factor, 0);
            x.compose(0, 1, 0);
        }
        x.put(1, base, 1, 0);
        return x;
    }

    /** PAIR 0 with 2^many as its LEFT, over the BASE 2. */
    static Rootwalk twoTo(int many) {
        int[] factors = new int[(many + 8) / 9];
        for (int i = 0; i < factors.length; i++) {
            factors[i] = 1 << Math.min(9, many - 9 * i);
        }
        return leftOf(2, factors);
    }

    static Rootwalk splitOf(int number) {
        Rootwalk x = new Rootwalk();
        x.split(0, number);
        return x;
    }

    static String pair(Rootwalk x, int pair) {
        return x.pairBase(pair) + ": " + x.pairText(pair, true) + ", " + x.pairText(pair, false);
    }

    static String walk(Rootwalk x, int walk) {
        return x.part(walk, 0) + " at " + x.part(walk, 1);
    }

    static String split(Rootwalk x, int split) {
        StringBuilder out = new StringBuilder();
        for (int what = 0; what <= 7; what++) {
            out.append(what == 0 ? "" : " ").append(x.splitNumber(split, what));
        }
        return out.toString();
    }

    static String state(Rootwalk x) {
        return stateButRefusals(x) + ", -9 told " + x.house(3);
    }

    private static String stateButRefusals(Rootwalk x) {
        StringBuilder out = new StringBuilder();
        for (int i = 0; i < 3; i++) {
            out.append(walk(x, i)).append("; ").append(pair(x, i)).append("; ").append(split(x, i)).append("; ");
        }
        out.append("ACTS ").append(x.house(0)).append(' ').append(x.house(1)).append(' ').append(x.house(2));
        return out.append(", knocks ").append(x.house(4)).toString();
    }
}
