import java.lang.management.ManagementFactory;

/** An object makes its rows once: 512 calls, the dearest ones, take no more room than the tables of each MANY. */
public final class RoomTest {
    private static final long MOST_BYTES = 40_000;
    private static final int CALLS = 512;

    private static int unused = 0;

    private static void dearCalls(int kind, int i, LoopStrands x) {
        switch (kind) {
            case 0 -> unused += x.strands(i % 5 + 1);
            case 1 -> unused += x.project(i % 5, 5);
            case 2 -> unused += x.both(i % 5, (i + 1) % 5, (i + 2) % 5, 2);
            case 3 -> unused += x.turn(i % 5, (i + 1) % 5);
            case 4 -> unused += x.cell(1, 2);
            case 5 -> unused += x.image(i % 2) + x.restore(i % 2);
            case 6 -> unused += x.say(49) + x.word(i % 2) + x.fault(0);
            default -> unused += x.trace(i % 5) + x.bracket(99) + x.way(41, 1) + x.of(41, 2);
        }
    }

    private static void run(int kind) {
        LoopStrands x = new LoopStrands();
        x.strands(5);
        x.project(0, 5);
        x.project(1, 5);
        for (int i = 0; i < CALLS; i++) {
            dearCalls(kind, i, x);
        }
    }

    public static void main(String[] args) {
        var threads = (com.sun.management.ThreadMXBean) ManagementFactory.getThreadMXBean();
        boolean isWrong = false;
        for (int kind = 0; kind < 8; kind++) {
            // the first run loads classes, which takes room of its own
            run(kind);
            long before = threads.getCurrentThreadAllocatedBytes();
            run(kind);
            long bytes = threads.getCurrentThreadAllocatedBytes() - before;
            if (bytes > MOST_BYTES) {
                isWrong = true;
                System.out.println("calls of kind " + kind + " took " + bytes + " bytes, due is at most " + MOST_BYTES);
            }
        }
        System.out.println(isWrong ? "too much room is taken" : "all calls stay in their room");
        if (isWrong) {
            System.exit(1);
        }
    }
}
