import java.util.Arrays;

/** All that an object tells, in one row, so that a call can be seen to change nothing. */
final class Look {
    private Look() {
    }

    /** Some 36 calls and 15 for each shape. */
    static int[] at(BeamCuts x) {
        int shapes = x.count(0);
        int[] seen = new int[36 + 15 * shapes];
        int n = 0;
        for (int what = 0; what <= 18; what++) {
            seen[n++] = x.count(what);
        }
        for (int square = 0; square < 12; square++) {
            seen[n++] = x.heat(square);
        }
        for (int shape = 0; shape < shapes; shape++) {
            for (int what = 0; what <= 10; what++) {
                seen[n++] = x.shape(shape, what);
            }
            seen[n++] = x.reason(shape);
            seen[n++] = x.takes(shape);
            seen[n++] = x.coolsIn(shape);
            seen[n++] = x.ordered(shape);
        }
        seen[n++] = x.best();
        seen[n++] = x.ordered(shapes);
        seen[n++] = x.allTakes();
        seen[n++] = x.stopped(0);
        seen[n++] = x.stopped(1);
        return seen;
    }

    /** The same but for the states in the history, the length of the text and the latest stop. */
    static int[] stateOf(BeamCuts x) {
        int[] seen = at(x);
        seen[17] = 0;
        seen[18] = 0;
        return Arrays.copyOf(seen, seen.length - 2);
    }

    static void same(String what, int[] now, int[] before) {
        Due.due(what + ": differs at", Arrays.mismatch(now, before), -1);
    }
}
