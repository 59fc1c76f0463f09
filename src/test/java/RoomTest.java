import java.lang.management.ManagementFactory;

/** All calls of a run live in one room: an object takes a small one as it is made, and no call takes more. */
public final class RoomTest {
    /** Far below the room's 7.3 million fields and elements, so that many objects fit into one run. */
    private static final long MOST_BYTES_OF_OBJECT = 40000;
    private static final long MOST_BYTES_OF_CALLS = 10000;
    private static final int CALLS = 512;

    public static void main(String[] args) {
        // The first round loads what the Java machine loads but once.
        round();
        long[] taken = round();
        boolean fits = taken[0] <= MOST_BYTES_OF_OBJECT && taken[1] <= MOST_BYTES_OF_CALLS;
        System.out.println("an object takes " + taken[0] + " bytes, " + CALLS + " calls take " + taken[1]
            + (fits ? "" : ": too much"));
        if (!fits) {
            System.exit(1);
        }
    }

    private static long bytes() {
        return ((com.sun.management.ThreadMXBean) ManagementFactory.getThreadMXBean())
            .getThreadAllocatedBytes(Thread.currentThread().getId());
    }

    private static long[] round() {
        long before = bytes();
        InningsHouse x = new InningsHouse();
        long made = bytes();
        for (int call = 0; call < CALLS; call++) {
            one(x, call);
        }
        return new long[] {made - before, bytes() - made};
    }

    private static void one(InningsHouse x, int call) {
        switch (call % 16) {
            case 0: x.sheet(call / 16 % 8, 2, 60); break;
            case 1: x.striker(100, 100, 50, 10, 30 + call / 16, 800); break;
            case 2: x.set(0, 0, 1); x.set(0, 1, 1); break;
            case 3: x.order(0, 0, 6); break;
            case 4: x.mean(0, 0, 30); break;
            case 5: x.likely(0, 0, 30, 9); break;
            case 6: x.worth(0, 0, 0, 30); break;
            case 7: x.swapped(); break;
            case 8: x.best(); break;
            case 9: x.team(0, 0); break;
            case 10: x.team(1, 0); break;
            case 11: x.game(5, 0, 0, 12, 2); break;
            case 12: x.log(0, 0, 20, 0); break;
            case 13: x.learn(0, 0, 20, 0); break;
            case 14: x.ask(0, 1); break;
            default: x.copy(0, 0, 1, 0, 60); break;
        }
    }
}
