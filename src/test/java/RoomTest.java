import com.sun.management.ThreadMXBean;
import java.lang.management.ManagementFactory;

/**
 * All calls of one run live in one room: "some 600,000 objects and arrays, 7.3 million fields and elements in all".
 * Bytes can be measured here, and 7.3 million elements of the most frequent size, int, are some 29 million bytes.
 */
public final class RoomTest {
    private static final int MOST_CALLS = 512;
    private static final long ROOM = 7_300_000L * 4;
    // What is counted beside the calls: the measuring itself, and what the machine makes when it first runs a method.
    private static final long SLACK = 100_000;

    private RoomTest() {
    }

    private static long bytes() {
        return ((ThreadMXBean) ManagementFactory.getThreadMXBean()).getCurrentThreadAllocatedBytes();
    }

    /** Twelve shapes and a plan of sixty characters. */
    private static BeamCuts fullSheet() {
        BeamCuts x = new BeamCuts();
        for (int i = 0; i < 12; i++) {
            x.tell(i, i, 32 - 2 * i, 24 - 2 * i);
        }
        for (int i = 0; i < 59; i++) {
            x.type(i % 2 == 0 ? 'k' : ';');
        }
        return x;
    }

    /** One call of a kind; what changes a state is followed by what changes it back, or answers the same again. */
    private static int call(BeamCuts x, int kind, int turn) {
        switch (kind) {
            case 0: return turn % 2 == 0 ? x.undo() : x.tell(11, 11, 10, 2);
            case 1: return x.setLead(0, turn % 4);
            case 2: return x.set(2, turn);
            case 3: return turn % 2 == 0 ? x.cut(11) : x.undo();
            case 4: return x.pause(1 + turn);
            case 5: return x.clean();
            case 6: return turn % 2 == 0 ? x.clearText() : x.type('k');
            case 7: return x.perform();
            case 8: return x.stopped(0);
            case 9: return turn % 2 == 0 ? x.keep() : x.restore();
            case 10: return x.shape(turn % 12, 6 + turn % 2);
            case 11: return x.heat(turn % 12);
            case 12: return x.reason(turn % 12);
            case 13: return x.takes(turn % 12);
            case 14: return x.coolsIn(turn % 12);
            case 15: return x.best();
            case 16: return x.ordered(11);
            case 17: return x.allTakes();
            default: return x.count(turn % 19);
        }
    }

    public static void main(String[] args) {
        bytes();
        long dearest = 0;
        for (int kind = 0; kind <= 18; kind++) {
            BeamCuts x = fullSheet();
            long start = bytes();
            for (int turn = 72; turn < MOST_CALLS; turn++) {
                call(x, kind, turn);
            }
            dearest = Math.max(dearest, bytes() - start);
        }
        long start = bytes();
        fullSheet();
        long made = bytes() - start;
        System.out.println("bytes of an object: " + made + ", of its dearest calls: " + dearest);
        Due.due("an object and its dearest calls have room", made + dearest <= ROOM + SLACK ? 1 : 0, 1);
        Due.end();
    }
}
