import java.lang.management.ManagementFactory;

/** What calls of one kind take of the room that 512 calls have: some 600,000 objects of 7.3 million elements. */
public final class RoomTest {
    private interface Call {
        void run(Rootwalk x);
    }

    // with those that prepare the object at most 512
    private static final int CALLS = 240;
    // an element takes at least a byte and an object at least 16, so 512 calls of so many bytes are within both limits
    private static final long MOST_BYTES_A_CALL = 14000;
    // a StringBuilder that grows to the 104 signs of TOP takes less, two of them or the texts beside it more
    private static final long ONE_BUILDER = 400;
    private static final long ONE_BUILDER_AND_TEXT = 550;
    // what the measuring itself may take
    private static final long NOTHING = 16;
    private static int wrong = 0;

    public static void main(String[] args) {
        measure("open", x -> x.open(0, x.part(0, 0) == 82 ? 99 : 82));
        measure("walkCopy", x -> x.walkCopy(1, 0));
        measure("isNear", x -> x.isNear(0, 2));
        measure("decimals", x -> x.decimals(0, 16));
        measure("periodText", x -> x.periodText(94));
        measure("power", x -> x.power(1, 5));
        measure("compose", x -> x.compose(0, 0, 1));
        measure("settle", x -> { x.split(0, 997); x.settle(0); });
        measure("product", x -> x.product(0, 1));
        // LANGUAGE.md 12: at most one StringBuilder a call; what only answers a number or a boolean leaves nothing
        measure("isRead by 2", ONE_BUILDER, x -> x.isRead(0, 2));
        measure("isRead by 3", ONE_BUILDER, x -> x.isRead(0, 3));
        measure("isRead as bytes", NOTHING, x -> x.isRead(0, 0));
        measure("digest", NOTHING, x -> x.digest());
        measure("isSound", NOTHING, x -> x.isSound());
        measure("rank", NOTHING, x -> x.rank(0));
        measure("alike", NOTHING, x -> x.alike(0));
        measure("walkText by 2", ONE_BUILDER_AND_TEXT, x -> x.walkText(0, 0, 2));
        measure("pairNorm", ONE_BUILDER_AND_TEXT, x -> x.pairNorm(1));
        if (wrong == 0) {
            System.out.println("RoomTest: all calls keep to the room");
        } else {
            System.exit(1);
        }
    }

    private static void measure(String name, Call call) {
        measure(name, MOST_BYTES_A_CALL, call);
    }

    private static void measure(String name, long mostBytes, Call call) {
        com.sun.management.ThreadMXBean bean = (com.sun.management.ThreadMXBean) ManagementFactory.getThreadMXBean();
        Rootwalk x = prepared();
        call.run(x);
        long before = bean.getCurrentThreadAllocatedBytes();
        for (int i = 0; i < CALLS; i++) {
            call.run(x);
        }
        long each = (bean.getCurrentThreadAllocatedBytes() - before) / CALLS;
        if (each > mostBytes) {
            wrong++;
            System.out.println("RoomTest: " + name + " takes " + each + " bytes a call");
        }
    }

    private static Rootwalk prepared() {
        Rootwalk x = new Rootwalk();
        x.open(0, 82);
        x.open(1, 99);
        x.open(2, 61);
        for (int i = 0; i < 4; i++) {
            x.forth(0, 6);
            x.forth(1, 6);
            x.forth(2, 6);
        }
        x.least(0, 3);
        x.power(0, 5);
        x.power(0, 5);
        x.take(2, 1);
        x.split(1, 997);
        return x;
    }
}
