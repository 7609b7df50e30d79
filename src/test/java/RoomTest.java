import com.sun.management.ThreadMXBean;
import java.lang.management.ManagementFactory;

/** All calls of a run live in one room: the dearest calls must not make objects, nor a whole object many. */
public final class RoomTest {
    private static final long MOST_BYTES_OF_AN_OBJECT = 16 * 1024;
    private static final int CALLS = 512;
    private static final Due due = new Due("RoomTest");

    private static long bytes() {
        return ((ThreadMXBean) ManagementFactory.getThreadMXBean()).getCurrentThreadAllocatedBytes();
    }

    /** As much as an object can hold: 24 lanes, 6 lines of 6 stops, 40 permits. */
    private static PermitWeave full() {
        PermitWeave x = new PermitWeave();
        for (int lane = 0; lane < 24; lane++) {
            x.lane(lane % 10, (lane + 1 + lane / 10) % 10, 1 + lane);
        }
        for (int line = 0; line < 6; line++) {
            x.line(line, 500);
            for (int stop = 1; stop < 6; stop++) {
                x.stop(line, (line + 3 * stop) % 10);
            }
        }
        for (int permit = 0; permit < 40; permit++) {
            x.apply(permit % 6, permit % 24, 4900, 40, PermitWeave.NONE, true);
            x.begin(permit);
            if (permit % 3 == 0) {
                x.finish(permit);
            }
        }
        return x;
    }

    private static long askAll(PermitWeave x) {
        long sum = 0;
        for (int call = 0; call < CALLS; call++) {
            sum += x.complain(call % 6) + x.minutesAnew(call % 6) + x.detour(call % 6) + x.way(call % 10, 7);
            sum += x.openings(call % 24, 9) + x.together(call % 40) + x.fee(call % 40) + x.fines(call % 6);
            sum += call % 8 == 0 ? x.pass(70) : 0;
        }
        return sum;
    }

    public static void main(String[] args) {
        askAll(full());
        long start = bytes();
        PermitWeave x = full();
        long built = bytes();
        long sum = askAll(x);
        long asked = bytes();
        due.is("the calls answered something", sum != 0, true);
        due.is("bytes of a full object " + (built - start) + " are few", built - start < MOST_BYTES_OF_AN_OBJECT, true);
        due.is("bytes that the calls made " + (asked - built) + " are next to none", asked - built < 4096, true);
        due.end();
    }
}
