import com.sun.management.ThreadMXBean;
import java.lang.management.ManagementFactory;

/** An object takes little room when it is made, and none in its calls. */
public final class RoomTest {
    private static final int OBJECTS = 20;
    private static final long MOST_BYTES_OF_AN_OBJECT = 16_000;
    // Far less than one row of ten numbers for each of the calls would take.
    private static final long MOST_BYTES_OF_ALL_CALLS = 4_000;

    private interface Call {
        double of(BellTowns x);
    }

    /** Each call of the face in its dearest form, and each error code. */
    private static final Call[] CALLS = {
        x -> x.hang(5, 9), x -> x.melt(5, 0), x -> x.settle(4, 17, 20), x -> x.plan(0, 31),
        x -> x.splice(0, 0), x -> x.feast(1, 6), x -> x.set(0, 0), x -> x.turns(50),
        x -> x.save(), x -> x.restore(), x -> x.undo(), x -> x.town(0, 8), x -> x.bell(0, 4, 4),
        x -> x.count(4), x -> x.loudness(0), x -> x.heard(0, 5), x -> x.winner(3),
        x -> x.ifPlanned(0, 17), x -> x.bestPlan(0), x -> x.pointsIn(0, 50), x -> x.share(0),
        x -> x.fault(), x -> x.run(), x -> x.clearText(), x -> x.append('t'), x -> x.append('9'),
        x -> x.append(';'), x -> x.run(), x -> x.append('p'), x -> x.append('0'),
        x -> x.append('0'), x -> x.append('4'), x -> x.run(), x -> x.hang(6, 1),
        x -> x.hang(0, 10), x -> x.hang(0, 1), x -> x.append(127), x -> x.share(6)};

    private static final ThreadMXBean THREADS =
        (ThreadMXBean) ManagementFactory.getThreadMXBean();

    public static void main(String[] args) {
        Due due = new Due();
        callsOfAnObject(filled());
        taken();
        long before = taken();
        BellTowns last = null;
        for (int made = 0; made < OBJECTS; made++) {
            last = new BellTowns();
        }
        long ofAnObject = (taken() - before) / OBJECTS;
        due.begin("room");
        due.isTrue("an object", last != null);
        due.isTrue("the bytes of an object, " + ofAnObject, ofAnObject <= MOST_BYTES_OF_AN_OBJECT);
        BellTowns full = filled();
        before = taken();
        callsOfAnObject(full);
        long ofCalls = taken() - before;
        due.isTrue("the bytes of all calls, " + ofCalls, ofCalls <= MOST_BYTES_OF_ALL_CALLS);
        due.end();
    }

    private static long taken() {
        return THREADS.getCurrentThreadAllocatedBytes();
    }

    /** All bells there can be, behind 36 calls. */
    private static BellTowns filled() {
        BellTowns x = new BellTowns();
        for (int town = 0; town < 6; town++) {
            for (int bell = 0; bell < 5; bell++) {
                x.hang(town, 9 - bell);
            }
            x.plan(town, 31);
        }
        return x;
    }

    private static void callsOfAnObject(BellTowns x) {
        for (int call = 36; call < 512; call++) {
            CALLS[call % CALLS.length].of(x);
        }
    }
}
