import com.sun.management.ThreadMXBean;
import java.lang.management.ManagementFactory;

/** A made object makes no further ones: all calls of a run live in one room. */
public final class RoomTest {
    private static final int ROOM = 40_000;
    private static final int SLACK = 4_000;

    private RoomTest() {
    }

    private static long bytes() {
        return ((ThreadMXBean) ManagementFactory.getThreadMXBean()).getCurrentThreadAllocatedBytes();
    }

    /** Some 110 calls of every kind; answers their sum, so that none is left out. */
    private static long allCalls(BeamCuts x) {
        long sum = x.tell(0, 0, 32, 24) + x.tell(1, 1, 30, 22) + x.tell(2, 2, 5, 5) + x.tell(2, 2, 5, 6);
        sum += x.setLead(0, 1) + x.set(2, 9) + x.cut(2) + x.pause(5) + x.clean() + x.keep();
        for (int i = 0; i < 60; i++) {
            sum += x.type(i % 2 == 0 ? 'k' : ';');
        }
        sum += x.perform() + x.clearText() + x.type('k') + x.perform() + x.stopped(0) + x.undo() + x.restore();
        for (int i = 0; i < 12; i++) {
            sum += x.shape(0, i) + x.heat(i) + x.ordered(i);
        }
        return sum + x.reason(0) + x.takes(0) + x.coolsIn(0) + x.best() + x.allTakes() + x.count(10);
    }

    public static void main(String[] args) {
        allCalls(new BeamCuts());
        bytes();
        long start = bytes();
        BeamCuts x = new BeamCuts();
        long made = bytes();
        long sum = 0;
        for (int i = 0; i < 4; i++) {
            sum += allCalls(x);
        }
        long used = bytes() - made;
        System.out.println("bytes of an object: " + (made - start) + ", of its calls: " + used + ", sum " + sum);
        Due.due("an object is small", made - start <= ROOM ? 1 : 0, 1);
        Due.due("its calls make nothing", used <= SLACK ? 1 : 0, 1);
        Due.end();
    }
}
