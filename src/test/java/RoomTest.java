import java.lang.management.ManagementFactory;

/** All calls of a run live in one room: the constructor makes what is needed, and the dearest calls make next to nothing more. */
public final class RoomTest {
    // Two of each twelve steps are two calls: with the first one some 500, of the 512 that an object answers.
    private static final int CALLS = 432;
    private static final long MOST_AT_FIRST = 64 * 1024, MOST_A_CALL = 64;

    public static void main(String[] args) {
        Due due = new Due("RoomTest");
        // Whatever the machine makes on the first use of a class is made by this first round.
        long[] first = round();
        long[] second = round();
        due.holds("rounds were measured", first[0] > 0);
        due.holds("a new object is small: " + second[0], second[0] <= MOST_AT_FIRST);
        due.holds("calls make next to nothing: " + second[1], second[1] <= MOST_A_CALL * CALLS);
        due.close();
    }

    private static long[] round() {
        long at0 = made();
        PalmJury x = new PalmJury();
        long at1 = made();
        x.deal(10);
        int sum = 0;
        for (int call = 1; call < CALLS; call++) {
            switch (call % 12) {
                case 0: sum += x.bestTurn(60, 0); break;
                case 1: sum += x.sure(60); break;
                case 2: sum += x.advocate(60, 0); break;
                case 3: sum += x.tipped(60); break;
                case 4: sum += x.allKnow(); break;
                case 5: sum += x.sheet(call % 4, 0, 24) + x.lay(call % 5, 2, call % 4); break;
                case 6: sum += x.weighed(call % 4, 0); break;
                case 7: sum += x.keep() + x.check(30); break;
                case 8: sum += x.back(); break;
                case 9: sum += x.feed(0x66656520, 0x682A7320, 0x2B203938); break;
                case 10: sum += x.text(); break;
                default: sum += x.hours(100); break;
            }
        }
        long at2 = made();
        return new long[] {at1 - at0, at2 - at1 + (sum & 0)};
    }

    private static long made() {
        com.sun.management.ThreadMXBean threads = (com.sun.management.ThreadMXBean) ManagementFactory.getThreadMXBean();
        return threads.getThreadAllocatedBytes(Thread.currentThread().getId());
    }
}
