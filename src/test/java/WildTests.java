import java.lang.management.ManagementFactory;
import java.util.ArrayList;
import java.util.List;
import java.util.Random;

/**
 * Calls with any numbers at all, in any order, also beyond those that an object is used for: none may
 * throw, the same ones always answer the same, and they leave little behind in the room that they share.
 */
public final class WildTests {
    private static final String[] NAMES = {
        "place", "piece", "type", "plan", "count", "push", "jump", "purge", "stop", "hold", "step", "drift", "undo",
        "seed", "where", "pulses", "next", "meets", "reach", "off", "lost", "image", "restore", "came", "film", "sheet",
        "drop", "item", "copy"};
    private static final int[] SIZES = {
        1, 2, 1, 0, 1, 4, 4, 1, 0, 0, 1, 1, 0,
        1, 2, 2, 2, 3, 2, 1, 6, 0, 0, 4, 4, 3,
        1, 4, 5};
    private static final long[] EDGES = {
        Integer.MIN_VALUE, Integer.MIN_VALUE + 1, -1000001, -65536, -257, -129, -16, -11, -2, 5, 6, 7, 10, 11, 12, 13, 15,
        16, 23, 24, 25, 31, 32, 40, 41, 99, 100, 126, 127, 200, 201, 65536, 1 << 30, Integer.MAX_VALUE - 1,
        Integer.MAX_VALUE, 1L << 32, Long.MIN_VALUE, Long.MAX_VALUE};
    private static final int RUNS = 400, CALLS = 2000, USED = 512;

    private static int wrong = 0;

    public static void main(String[] args) {
        for (int run = 0; run < RUNS; run++) {
            List<Call> calls = draw(new Random(run));
            due("run " + run + " a second time", answers(calls).equals(answers(calls)));
        }
        room();
        System.out.println(RUNS * CALLS + " wild calls, " + wrong + " things wrong");
        if (wrong != 0) {
            System.exit(1);
        }
    }

    private static void due(String what, boolean so) {
        if (!so) {
            wrong++;
            System.out.println("not as told: " + what);
        }
    }

    private static List<Call> draw(Random random) {
        List<Call> calls = new ArrayList<>();
        for (int k = 0; k < CALLS; k++) {
            int name = random.nextInt(NAMES.length);
            long[] numbers = new long[SIZES[name]];
            for (int i = 0; i < numbers.length; i++) {
                numbers[i] = random.nextInt(4) == 0 ? EDGES[random.nextInt(EDGES.length)] : random.nextInt(6) - 1;
            }
            calls.add(new Call(NAMES[name], numbers));
        }
        return calls;
    }

    private static List<Long> answers(List<Call> calls) {
        PulsedAxes x = new PulsedAxes();
        List<Long> answers = new ArrayList<>();
        for (Call call : calls) {
            try {
                answers.add(call.on(x));
            } catch (RuntimeException | StackOverflowError thrown) {
                due(call + " threw " + thrown, false);
            }
        }
        return answers;
    }

    // ---- the room

    /** Bytes, by the machine's own count; 7.3 million numbers are some 29 million bytes at the least. */
    private static void room() {
        com.sun.management.ThreadMXBean counter = (com.sun.management.ThreadMXBean) ManagementFactory.getThreadMXBean();
        long before = counter.getCurrentThreadAllocatedBytes();
        PulsedAxes x = new PulsedAxes();
        long made = counter.getCurrentThreadAllocatedBytes() - before;
        due("a new object takes " + made + " bytes", made < 40_000);
        for (int k = 0; k < 12; k++) {
            x.push(3, 10, 10, 99);
        }
        x.sheet(0, 3, 24);
        for (String name : NAMES) {
            Call call = dearest(name);
            before = counter.getCurrentThreadAllocatedBytes();
            for (int k = 0; k < USED; k++) {
                call.on(x);
            }
            made = counter.getCurrentThreadAllocatedBytes() - before;
            due(USED + " times " + call + " takes " + made + " bytes", made < USED * 200);
        }
    }

    private static Call dearest(String name) {
        switch (name) {
            case "push":
            case "jump": return new Call(name, 3, 10, 10, 99);
            case "step": return new Call(name, 200);
            case "drift": return new Call(name, 40);
            case "where": return new Call(name, Integer.MAX_VALUE, 0);
            case "next": return new Call(name, 2, 0);
            case "meets": return new Call(name, 999, 0, 0);
            case "lost": return new Call(name, 6, 5, 0, 0, 0, 0);
            case "came": return new Call(name, 0, 3, 0, 6);
            case "film": return new Call(name, 12, 0, 3, 0);
            case "sheet": return new Call(name, 0, 3, 24);
            case "drop": return new Call(name, 1);
            case "item": return new Call(name, 0, 3, 0, 5);
            case "copy": return new Call(name, 0, 0, 0, 1, 23);
            case "type": return new Call(name, ' ');
            default: return new Call(name, 0, 0);
        }
    }
}
