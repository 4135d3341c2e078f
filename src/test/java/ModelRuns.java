import java.lang.reflect.InvocationTargetException;
import java.lang.reflect.Method;
import java.util.ArrayList;
import java.util.Comparator;
import java.util.List;
import java.util.Random;

/** Runs the same calls on Rootwalk and on Model: drawn ones (always the same draws), then each base at each step. */
public final class ModelRuns {
    private static final int RUNS = 400;
    // what an object answers behind its 512th call is free: with eight digests between these are 512
    private static final int CALLS = 504;
    private static int wrong = 0;

    private static final List<Method> METHODS = new ArrayList<>();
    private static final List<Method> TWINS = new ArrayList<>();

    public static void main(String[] args) throws Exception {
        for (Method method : Rootwalk.class.getDeclaredMethods()) {
            if (java.lang.reflect.Modifier.isPublic(method.getModifiers())) {
                METHODS.add(method);
            }
        }
        METHODS.sort(Comparator.comparing(Method::getName));
        for (Method method : METHODS) {
            TWINS.add(Model.class.getMethod(method.getName(), method.getParameterTypes()));
        }
        drawnRuns();
        eachBase();
        eachPrime();
        System.out.println(wrong == 0 ? "ModelRuns: all answers agree" : "ModelRuns: " + wrong + " answers differ");
        if (wrong != 0) {
            System.exit(1);
        }
    }

    private static void drawnRuns() throws Exception {
        for (int run = 0; run < RUNS; run++) {
            Random random = new Random(run);
            Rootwalk got = new Rootwalk();
            Model due = new Model();
            StringBuilder calls = new StringBuilder();
            // some runs keep to few bases, so that products and copies meet
            int[] bases = run % 2 == 0 ? new int[] {2, 3, 61} : new int[] {5 + run % 3, 94, 82, 99, 13, 46};
            for (int call = 0; call < CALLS; call++) {
                int pick = draw(random);
                Object[] values = arguments(METHODS.get(pick), random, bases, run % 5 == 0);
                if (!agree("run " + run + " call " + call, pick, got, due, values)) {
                    break;
                }
                if (call % 63 == 62) {
                    agree("run " + run + " call " + call, indexOf("digest"), got, due);
                }
            }
        }
    }

    private static int draw(Random random) {
        String[] often = {"open", "forth", "forth", "forth", "take", "compose", "power", "least", "mirror", "divideBy",
            "split", "euclid", "euclid", "settle", "put", "rank", "walkText", "pairText"};
        return random.nextInt(3) == 0 ? indexOf(often[random.nextInt(often.length)]) : random.nextInt(METHODS.size());
    }

    private static int indexOf(String name) {
        for (int i = 0; i < METHODS.size(); i++) {
            if (METHODS.get(i).getName().equals(name)) {
                return i;
            }
        }
        throw new AssertionError(name);
    }

    /** The range of each argument that is a number, first the lowest, then the highest. */
    private static int[][] ranges(String name) {
        int[] third = {0, 2};
        int[] base = {2, 99};
        switch (name) {
            case "open": return new int[][] {third, base};
            case "forth": return new int[][] {third, {1, 6}};
            case "part": return new int[][] {third, {0, 5}};
            case "walkText": return new int[][] {third, {0, 3}, {2, 16}};
            case "test": return new int[][] {third, {0, 2}};
            case "walkBits": return new int[][] {third, {0, 2}};
            case "bit": return new int[][] {third, {0, 119}};
            case "isRead": return new int[][] {third, {0, 16}};
            case "isNear": return new int[][] {third, {1, 3}};
            case "decimals": return new int[][] {third, {0, 16}};
            case "rootText": return new int[][] {{1, 99}, {0, 16}};
            case "period": case "periodText": case "solution": case "minus": case "middle": return new int[][] {base};
            case "put": return new int[][] {third, base, {-1000, 1000}, {-1000, 1000}};
            case "least": return new int[][] {third, base};
            case "power": return new int[][] {third, {0, 5}};
            case "divideBy": return new int[][] {third, {-99, 99}};
            case "pairBits": return new int[][] {third, {0, 2}};
            case "split": return new int[][] {third, {5, 997}};
            case "splitNumber": return new int[][] {third, {0, 7}};
            case "symbol": case "inverse": return new int[][] {third, {-999, 999}};
            case "isPrime": return new int[][] {{0, 999}};
            case "house": return new int[][] {{0, 4}};
            default: return new int[][] {third, third, third};
        }
    }

    private static Object[] arguments(Method method, Random random, int[] bases, boolean isWild) {
        Class<?>[] types = method.getParameterTypes();
        Object[] values = new Object[types.length];
        int[][] ranges = ranges(method.getName());
        int numbers = 0;
        for (int i = 0; i < types.length; i++) {
            if (types[i] == boolean.class) {
                values[i] = random.nextBoolean();
                continue;
            }
            int[] range = ranges[numbers++];
            int value = range[0] + random.nextInt(range[1] - range[0] + 1);
            if (range[0] == 2 && range[1] == 99 && random.nextInt(3) != 0) {
                value = bases[random.nextInt(bases.length)];
            }
            if (range[1] >= 997 && random.nextInt(3) == 0) {
                value = new int[] {5, 13, 29, 193, 997, 0, 1, -1, 2, 7}[random.nextInt(10)];
            }
            if (method.getName().equals("divideBy") && i == 1 && random.nextInt(2) == 0) {
                value = new int[] {-1, 1, 2, 3, -2, 0}[random.nextInt(6)];
            }
            if (random.nextInt(isWild ? 12 : 60) == 0) {
                value = new int[] {range[0] - 1, range[1] + 1, Integer.MIN_VALUE, Integer.MAX_VALUE}[random.nextInt(4)];
            }
            values[i] = value;
        }
        return values;
    }

    private static Object answer(Method method, Object on, Object[] values) throws Exception {
        try {
            return method.invoke(on, values);
        } catch (InvocationTargetException e) {
            return e.getCause().getClass();
        }
    }

    private static boolean agree(String where, int pick, Rootwalk got, Model due, Object... values) throws Exception {
        Object is = answer(METHODS.get(pick), got, values);
        Object should = answer(TWINS.get(pick), due, values);
        if (!is.equals(should)) {
            wrong++;
            System.out.println(where + ": " + METHODS.get(pick).getName() + java.util.Arrays.toString(values)
                + " answered " + is + ", due is " + should);
            return false;
        }
        return true;
    }

    private static void eachBase() throws Exception {
        for (int base = 0; base <= 100; base++) {
            Rootwalk got = new Rootwalk();
            Model due = new Model();
            String where = "base " + base;
            for (String name : new String[] {"period", "periodText", "middle"}) {
                agree(where, indexOf(name), got, due, base);
            }
            for (boolean isLeft : new boolean[] {true, false}) {
                agree(where, indexOf("solution"), got, due, base, isLeft);
                agree(where, indexOf("minus"), got, due, base, isLeft);
            }
            for (int places = 0; places <= 16; places++) {
                agree(where, indexOf("rootText"), got, due, base, places);
            }
            for (int step = 0; step <= 24; step++) {
                eachStep(base, step);
            }
        }
    }

    private static void eachStep(int base, int step) throws Exception {
        String where = "base " + base + " step " + step;
        Rootwalk got = new Rootwalk();
        Model due = new Model();
        agree(where, indexOf("open"), got, due, 1, base);
        for (int k = 0; k < step; k++) {
            agree(where, indexOf("forth"), got, due, 1, 1);
        }
        eachQuestion(where, got, due);
    }

    private static void eachQuestion(String where, Rootwalk got, Model due) throws Exception {
        for (int what = 0; what <= 5; what++) {
            agree(where, indexOf("part"), got, due, 1, what);
            agree(where, indexOf("test"), got, due, 1, what);
            agree(where, indexOf("isNear"), got, due, 1, what);
            agree(where, indexOf("walkBits"), got, due, 1, true, what);
            agree(where, indexOf("walkBits"), got, due, 1, false, what);
        }
        for (int radix = 0; radix <= 17; radix++) {
            agree(where, indexOf("walkText"), got, due, 1, radix % 4, radix);
            agree(where, indexOf("walkText"), got, due, 1, 0, radix);
            agree(where, indexOf("isRead"), got, due, 1, radix);
            agree(where, indexOf("decimals"), got, due, 1, radix);
        }
        for (int place = 0; place <= 119; place++) {
            agree(where, indexOf("bit"), got, due, 1, place % 2 == 0, place);
        }
        agree(where, indexOf("alike"), got, due, 1);
        agree(where, indexOf("take"), got, due, 1, 2);
        agree(where, indexOf("digest"), got, due);
    }

    private static void eachPrime() throws Exception {
        for (int number = 0; number <= 1000; number++) {
            Rootwalk got = new Rootwalk();
            Model due = new Model();
            String where = "number " + number;
            agree(where, indexOf("isPrime"), got, due, number);
            agree(where, indexOf("split"), got, due, 1, number);
            agree(where, indexOf("split"), got, due, 2, number);
            agree(where, indexOf("way"), got, due, 1);
            agree(where, indexOf("product"), got, due, 1, 0);
            agree(where, indexOf("settle"), got, due, 2);
            agree(where, indexOf("digest"), got, due);
            agree(where, indexOf("symbol"), got, due, 1, number - 500);
            agree(where, indexOf("inverse"), got, due, 1, number - 500);
            for (int step = 0; step < 16; step++) {
                agree(where, indexOf("euclid"), got, due, 1);
                agree(where, indexOf("digest"), got, due);
            }
            agree(where, indexOf("settle"), got, due, 1);
            agree(where, indexOf("way"), got, due, 1);
        }
    }
}
