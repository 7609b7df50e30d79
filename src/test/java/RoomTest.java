import com.sun.management.ThreadMXBean;
import java.lang.management.ManagementFactory;

/** All calls of a run live in one room: the dearest calls must not make objects, nor a whole object many. */
public final class RoomTest {
    private static final long MOST_BYTES_OF_AN_OBJECT = 16 * 1024;
    /** As many as an object has calls for, when it is full. */
    private static final int ROUNDS = 44;
    private static final Due due = new Due("RoomTest");

    private static long bytes() {
        return ((ThreadMXBean) ManagementFactory.getThreadMXBean()).getCurrentThreadAllocatedBytes();
    }

    private static long askAll(PermitWeave x) {
        long sum = 0;
        for (int call = 0; call < ROUNDS; call++) {
            sum += x.complain(call % 6) + x.minutesAnew(call % 6) + x.detour(call % 6) + x.way(call % 10, 7);
            sum += x.openings(call % 24, 9) + x.together(call % 40) + x.fee(call % 40) + x.fines(call % 6);
            sum += call % 8 == 0 ? x.pass(70) : 0;
        }
        return sum;
    }

    public static void main(String[] args) {
        askAll(Offices.full());
        long start = bytes();
        PermitWeave x = Offices.full();
        long built = bytes();
        long sum = askAll(x);
        long asked = bytes();
        due.is("the calls answered something", sum != 0, true);
        due.is("bytes of a full object " + (built - start) + " are few", built - start < MOST_BYTES_OF_AN_OBJECT, true);
        due.is("bytes that the calls made " + (asked - built) + " are next to none", asked - built < 4096, true);
        due.end();
    }
}
