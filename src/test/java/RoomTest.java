import java.lang.management.ManagementFactory;

/** The room that a run takes: 512 of the dearest calls make nothing that grows with their number. */
final class RoomTest {
    // All of a run has 7.3 million fields and elements; of 8 bytes each, this is a part in a hundred.
    private static final long MOST_BYTES = 584_000;

    private RoomTest() {
    }

    public static void main(String[] args) {
        com.sun.management.ThreadMXBean counter =
                (com.sun.management.ThreadMXBean) ManagementFactory.getThreadMXBean();
        long me = Thread.currentThread().getId();
        long sum = run();
        long before = counter.getThreadAllocatedBytes(me);
        sum -= run();
        long bytes = counter.getThreadAllocatedBytes(me) - before;
        Due.is("the same run twice", sum, 0L);
        Due.is("at most " + MOST_BYTES + " bytes, not " + bytes, bytes <= MOST_BYTES, true);
        Due.end("RoomTest");
    }

    // A row of eight rooms, and seven doors more; a lock is turned before each look.
    private static long run() {
        DoorChase x = Houses.row("........");
        for (int room = 0; room < 6; room++) {
            x.addDoor(room, room + 2, 4, room % 4);
        }
        x.addDoor(7, 0, 4, 2);
        long sum = 0;
        for (int call = 0; call < 160; call++) {
            x.begin(0, 7);
            x.turnLock(call % 14);
            sum = sum * 31 + x.digest();
        }
        return sum;
    }
}
