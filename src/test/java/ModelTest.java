/** Long runs of calls, the same each time, whose answers are compared with those of the plain model. */
public final class ModelTest {
    private static final int RUNS = 600;
    // What is asked at the end takes some 160 calls, a step at most some 40; an object is used for 512.
    private static final int CALLS = 300;
    private static final int[] ODD = {Integer.MIN_VALUE, -100, -1, 12, 13, 100, 1000, Integer.MAX_VALUE};
    private static final String LETTERS = "clwk;@0123456789 x\u0000\u00ff\uffff";

    private long seed;
    private BeamCuts x;
    private PlainModel y;
    private String where;
    private int calls;

    private ModelTest(int run) {
        seed = 7919L * run + 12345;
    }

    private int below(int bound) {
        seed = seed * 6364136223846793005L + 1442695040888963407L;
        return (int) ((seed >>> 33) % bound);
    }

    /** A value from the range, or now and then any other. */
    private int pick(int least, int greatest) {
        if (below(25) == 0) {
            return ODD[below(ODD.length)];
        }
        return least + below(greatest - least + 1);
    }

    private void same(String call, int got, int want) {
        calls++;
        Due.due(where + call, got, want);
    }

    private void tell() {
        int column = pick(0, 31);
        int row = pick(0, 23);
        int width = pick(2, below(3) == 0 ? 32 : 9);
        int height = pick(2, below(3) == 0 ? 24 : 9);
        if (below(3) == 0 && y.count(0) > 0) {
            inner(below(y.count(0)));
            return;
        }
        same("tell(" + column + ", " + row + ", " + width + ", " + height + ")",
            x.tell(column, row, width, height), y.tell(column, row, width, height));
    }

    /** Tells a shape that just fits into one, or nearly. */
    private void inner(int outer) {
        int margin = below(5) == 0 ? 0 : 1;
        int column = y.shape(outer, 0) + margin + below(2);
        int row = y.shape(outer, 1) + margin;
        int width = y.shape(outer, 2) - 2 - below(3);
        int height = y.shape(outer, 3) - 2 - below(3);
        same("tell(" + column + ", " + row + ", " + width + ", " + height + ")",
            x.tell(column, row, width, height), y.tell(column, row, width, height));
    }

    private void set() {
        int which = pick(0, 3);
        int[] greatest = {99, 4, 60, 1};
        int value = which < 0 || which > 3 ? below(100) : pick(0, greatest[which]);
        same("set(" + which + ", " + value + ")", x.set(which, value), y.set(which, value));
    }

    private String thing() {
        switch (below(4)) {
            case 0: return "l" + below(13) + "@" + below(4);
            case 1: return below(3) == 0 ? "w" + below(1100) : "w" + (1 + below(30));
            case 2: return "k";
            default: return "c" + below(13);
        }
    }

    private void plan() {
        StringBuilder text = new StringBuilder(thing());
        for (int things = below(4); things > 0; things--) {
            text.append(';').append(thing());
        }
        if (below(4) == 0) {
            text.insert(below(text.length() + 1), LETTERS.charAt(below(LETTERS.length())));
        }
        same("clearText()", x.clearText(), y.clearText());
        for (int i = 0; i < text.length(); i++) {
            char c = text.charAt(i);
            same("type(" + (int) c + ")", x.type(c), y.type(c));
        }
        same("perform() of " + text, x.perform(), y.perform());
        same("stopped(0)", x.stopped(0), y.stopped(0));
        same("stopped(1)", x.stopped(1), y.stopped(1));
    }

    private void history() {
        switch (below(4)) {
            case 0: same("keep()", x.keep(), y.keep()); break;
            case 1: same("restore()", x.restore(), y.restore()); break;
            default: same("undo()", x.undo(), y.undo()); break;
        }
    }

    private void change() {
        int a = pick(0, 11);
        int b = pick(0, 3);
        switch (below(16)) {
            case 0: case 1: case 2: case 3: tell(); break;
            case 4: same("setLead(" + a + ", " + b + ")", x.setLead(a, b), y.setLead(a, b)); break;
            case 5: set(); break;
            case 6: case 7: case 8: same("cut(" + a + ")", x.cut(a), y.cut(a)); break;
            case 9: int best = y.best(); same("cut(" + best + ")", x.cut(best), y.cut(best)); break;
            case 10: int t = pick(1, 40); same("pause(" + t + ")", x.pause(t), y.pause(t)); break;
            case 11: same("clean()", x.clean(), y.clean()); break;
            case 12: plan(); break;
            default: history(); break;
        }
    }

    private void ask() {
        int a = pick(0, 11);
        int what = pick(0, 10);
        switch (below(9)) {
            case 0: same("shape(" + a + ", " + what + ")", x.shape(a, what), y.shape(a, what)); break;
            case 1: same("heat(" + a + ")", x.heat(a), y.heat(a)); break;
            case 2: same("reason(" + a + ")", x.reason(a), y.reason(a)); break;
            case 3: same("takes(" + a + ")", x.takes(a), y.takes(a)); break;
            case 4: same("coolsIn(" + a + ")", x.coolsIn(a), y.coolsIn(a)); break;
            case 5: same("best()", x.best(), y.best()); break;
            case 6: same("ordered(" + a + ")", x.ordered(a), y.ordered(a)); break;
            case 7: same("allTakes()", x.allTakes(), y.allTakes()); break;
            default: int c = pick(0, 18); same("count(" + c + ")", x.count(c), y.count(c)); break;
        }
    }

    private void askAll() {
        for (int i = -1; i <= 12; i++) {
            for (int what = 4; what <= 10; what++) {
                same("shape(" + i + ", " + what + ")", x.shape(i, what), y.shape(i, what));
            }
            same("heat(" + i + ")", x.heat(i), y.heat(i));
            same("coolsIn(" + i + ")", x.coolsIn(i), y.coolsIn(i));
            same("ordered(" + i + ")", x.ordered(i), y.ordered(i));
        }
        for (int what = -1; what <= 19; what++) {
            same("count(" + what + ")", x.count(what), y.count(what));
        }
    }

    private void run(int run) {
        x = new BeamCuts();
        y = new PlainModel();
        calls = 0;
        for (int step = 0; calls < CALLS; step++) {
            where = "model run " + run + ", step " + step + ": ";
            change();
            ask();
        }
        where = "model run " + run + ", end: ";
        askAll();
    }

    private static void compareFaults() {
        ModelTest t = new ModelTest(RUNS);
        for (int run = 0; run < 4000; run++) {
            StringBuilder text = new StringBuilder();
            for (int length = t.below(8); length > 0; length--) {
                text.append(LETTERS.charAt(t.below(LETTERS.length())));
            }
            int fault = PlainModel.fault(text.toString());
            int got = Due.perform(new BeamCuts(), text.toString());
            if (fault >= 0 || got <= -100) {
                Due.due("perform() of " + text, got, -100 - fault);
            }
        }
    }

    public static void main(String[] args) {
        for (int run = 0; run < RUNS && Due.allAreDue(); run++) {
            new ModelTest(run).run(run);
        }
        compareFaults();
        Due.end();
    }
}
