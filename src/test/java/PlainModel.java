import java.util.ArrayList;
import java.util.BitSet;
import java.util.List;
import java.util.regex.Matcher;
import java.util.regex.Pattern;

/**
 * The document in its plainest form, to compare the program with: shapes are sets of fields, the beam goes
 * field by field, each tick is told one by one, and texts are read by a regular expression.
 */
final class PlainModel {
    private static final String SHAPE = "(?:1[01]|[0-9])";
    private static final String THING = "(?:c" + SHAPE + "|l" + SHAPE + "@[0-3]|w[1-9][0-9]{0,2}|k)";
    private static final Pattern PLAN = Pattern.compile(THING + "(?:;" + THING + ")*", Pattern.DOTALL);
    private static final int[][] RANGES = {{1, 99}, {0, 20}, {0, 999}, {0, 1}};
    private static final int MANY_TICKS = 2000;

    private static final class Part {
        final int left, top, width, height;
        final BitSet fields = new BitSet();
        final BitSet edge = new BitSet();
        int lead, how, tilted, rank = BeamCuts.NONE;

        Part(int left, int top, int width, int height) {
            this.left = left;
            this.top = top;
            this.width = width;
            this.height = height;
            for (int c = left; c < left + width; c++) {
                for (int r = top; r < top + height; r++) {
                    fields.set(r * 32 + c);
                    if (c == left || c == left + width - 1 || r == top || r == top + height - 1) {
                        edge.set(r * 32 + c);
                    }
                }
            }
        }

        Part copy() {
            Part p = new Part(left, top, width, height);
            p.lead = lead;
            p.how = how;
            p.tilted = tilted;
            p.rank = rank;
            return p;
        }

        boolean meets(Part o) {
            return fields.intersects(o.fields);
        }

        boolean inside(Part o) {
            BitSet outside = (BitSet) fields.clone();
            outside.andNot(o.fields);
            return outside.isEmpty() && !fields.intersects(o.edge);
        }

        int leadField() {
            int[] corners = {top * 32 + left, top * 32 + left + width - 1,
                (top + height - 1) * 32 + left + width - 1, (top + height - 1) * 32 + left};
            return corners[lead];
        }
    }

    private static final class State {
        final List<Part> parts = new ArrayList<>();
        int[] heat = new int[12];
        int[] settings = {20, 1, 150, 1};
        int column, row, dirt, ticks, burning, cuts;

        State copy() {
            State s = new State();
            for (Part p : parts) {
                s.parts.add(p.copy());
            }
            s.heat = heat.clone();
            s.settings = settings.clone();
            s.column = column;
            s.row = row;
            s.dirt = dirt;
            s.ticks = ticks;
            s.burning = burning;
            s.cuts = cuts;
            return s;
        }

        void tick() {
            ticks++;
            for (int q = 0; q < 12; q++) {
                heat[q] -= settings[1];
                if (heat[q] < 0) {
                    heat[q] = 0;
                }
            }
        }

        void goTo(int field) {
            while (column != field % 32 || row != field / 32) {
                if (column < field % 32) {
                    column++;
                } else if (column > field % 32) {
                    column--;
                } else if (row < field / 32) {
                    row++;
                } else {
                    row--;
                }
                tick();
            }
        }

        int hottest() {
            int h = 0;
            for (int q : heat) {
                if (q > h) {
                    h = q;
                }
            }
            return h;
        }

        int reason(int i) {
            Part p = parts.get(i);
            if (p.how != 0) {
                return p.how;
            }
            for (Part o : parts) {
                if (settings[3] == 1 && o != p && o.inside(p) && o.how == 0) {
                    return 3;
                }
            }
            State s = copy();
            s.goTo(p.leadField());
            for (int f = p.edge.nextSetBit(0); f >= 0; f = p.edge.nextSetBit(f + 1)) {
                if (s.heat[squareOf(f)] > settings[2]) {
                    return 4;
                }
            }
            return 0;
        }

        int cut(int i) {
            if (i < 0 || i >= parts.size()) {
                return BeamCuts.UNKNOWN;
            }
            if (reason(i) != 0) {
                return BeamCuts.REFUSED - reason(i);
            }
            Part p = parts.get(i);
            goTo(p.leadField());
            int extra = 0;
            for (int d = 4; d <= dirt; d += 4) {
                extra += p.edge.cardinality();
            }
            ticks += 2 * p.edge.cardinality() + extra;
            burning += 2 * p.edge.cardinality() + extra;
            for (int f = p.edge.nextSetBit(0); f >= 0; f = p.edge.nextSetBit(f + 1)) {
                heat[squareOf(f)]++;
            }
            dirt++;
            p.how = 1;
            p.rank = cuts++;
            p.tilted = heat[squareOf(p.leadField())] == hottest() ? 1 : 0;
            int lost = 0;
            for (Part o : parts) {
                if (o != p && o.inside(p) && o.how == 0) {
                    o.how = 2;
                    lost++;
                }
            }
            return lost;
        }

        int takes(int i) {
            State s = copy();
            s.settings[2] = 999;
            s.settings[3] = 0;
            s.heat = new int[12];
            int before = s.ticks;
            return s.cut(i) < 0 ? BeamCuts.NOT_POSSIBLE : s.ticks - before;
        }

        int coolsIn(int i) {
            if (reason(i) != 0 && reason(i) != 4) {
                return BeamCuts.NOT_POSSIBLE;
            }
            State s = copy();
            for (int t = 0; t < MANY_TICKS; t++) {
                if (s.reason(i) == 0) {
                    return t;
                }
                if (settings[1] == 0) {
                    return BeamCuts.NONE;
                }
                s.tick();
            }
            return BeamCuts.NONE;
        }

        int best() {
            int b = BeamCuts.NONE;
            for (int i = parts.size() - 1; i >= 0; i--) {
                if (reason(i) == 0 && (b < 0 || takes(i) <= takes(b))) {
                    b = i;
                }
            }
            return b;
        }

        int wholes() {
            return how(0);
        }

        int how(int what) {
            int n = 0;
            for (Part p : parts) {
                n += p.how == what ? 1 : 0;
            }
            return n;
        }

        /** Cuts all in order in this state; the state is as it is behind the last cut that can be. */
        List<Integer> cutAll() {
            List<Integer> order = new ArrayList<>();
            while (wholes() > 0) {
                int waited = 0;
                while (best() < 0) {
                    if (settings[1] == 0 || waited++ > MANY_TICKS) {
                        return order;
                    }
                    tick();
                }
                int b = best();
                order.add(b);
                cut(b);
            }
            return order;
        }
    }

    private State now = new State();
    private State kept = null;
    private final List<State> history = new ArrayList<>();
    private String text = "";
    private int stopNumber = -1;
    private int stopError = 0;

    private static int squareOf(int field) {
        return field % 32 / 8 + 4 * (field / 32 / 8);
    }

    private int act(State before, int answer) {
        if (answer < 0) {
            now = before;
            return answer;
        }
        history.add(before);
        if (history.size() > 4) {
            history.remove(0);
        }
        return answer;
    }

    private boolean unknown(int shape) {
        return shape < 0 || shape >= now.parts.size();
    }

    int tell(int column, int row, int width, int height) {
        if (column < 0 || column > 31 || row < 0 || row > 23 || width < 2 || width > 32 || height < 2
                || height > 24 || column + width > 32 || row + height > 24) {
            return BeamCuts.BAD_VALUE;
        }
        Part p = new Part(column, row, width, height);
        for (Part o : now.parts) {
            if (p.meets(o) && !p.inside(o) && !o.inside(p)) {
                return BeamCuts.NOT_POSSIBLE;
            }
            if ((p.inside(o) || o.inside(p)) && o.how != 0) {
                return BeamCuts.NOT_POSSIBLE;
            }
        }
        if (now.parts.size() == 12) {
            return BeamCuts.FULL;
        }
        State before = now.copy();
        now.parts.add(p);
        return act(before, now.parts.size() - 1);
    }

    private int leadOf(int shape, int corner) {
        if (unknown(shape) || corner < 0 || corner > 3) {
            return BeamCuts.UNKNOWN;
        }
        Part p = now.parts.get(shape);
        if (p.how != 0) {
            return BeamCuts.NOT_POSSIBLE;
        }
        if (p.lead == corner) {
            return BeamCuts.NONE;
        }
        int previous = p.lead;
        p.lead = corner;
        return previous;
    }

    int setLead(int shape, int corner) {
        State before = now.copy();
        return act(before, leadOf(shape, corner));
    }

    int set(int which, int value) {
        if (which < 0 || which > 3) {
            return BeamCuts.UNKNOWN;
        }
        if (value < RANGES[which][0] || value > RANGES[which][1]) {
            return BeamCuts.BAD_VALUE;
        }
        int previous = now.settings[which];
        if (previous == value) {
            return BeamCuts.NONE;
        }
        State before = now.copy();
        now.settings[which] = value;
        return act(before, previous);
    }

    int cut(int shape) {
        State before = now.copy();
        return act(before, now.cut(shape));
    }

    private int waiting(int ticks) {
        if (ticks < 1 || ticks > 999) {
            return BeamCuts.BAD_VALUE;
        }
        for (int t = 0; t < ticks; t++) {
            now.tick();
        }
        return now.hottest();
    }

    int pause(int ticks) {
        State before = now.copy();
        return act(before, waiting(ticks));
    }

    private int cleaning() {
        int had = now.dirt;
        if (had == 0) {
            return BeamCuts.NONE;
        }
        for (int t = 0; t < now.settings[0]; t++) {
            now.tick();
        }
        now.dirt = 0;
        return had;
    }

    int clean() {
        State before = now.copy();
        return act(before, cleaning());
    }

    int type(char character) {
        if (text.length() == 60) {
            return BeamCuts.FULL;
        }
        text += character;
        return text.length();
    }

    int clearText() {
        int had = text.length();
        text = "";
        return had;
    }

    /** The fault of a text; -1 if it is a plan. */
    static int fault(String text) {
        for (int i = 1; i <= text.length(); i++) {
            Matcher m = PLAN.matcher(text.substring(0, i));
            if (!m.matches() && !m.hitEnd()) {
                return i - 1;
            }
        }
        return PLAN.matcher(text).matches() ? -1 : text.length();
    }

    int perform() {
        int fault = fault(text);
        if (fault >= 0) {
            return -100 - fault;
        }
        String[] things = text.split(";");
        State before = now.copy();
        for (int i = 0; i < things.length; i++) {
            int answer = thing(things[i]);
            if (answer < 0 && answer != BeamCuts.NONE) {
                stopNumber = i;
                stopError = answer;
                return act(before, BeamCuts.NOT_POSSIBLE);
            }
        }
        return act(before, things.length);
    }

    private int thing(String thing) {
        String rest = thing.substring(1);
        switch (thing.charAt(0)) {
            case 'c': return now.cut(Integer.parseInt(rest));
            case 'w': return waiting(Integer.parseInt(rest));
            case 'k': return cleaning();
            default:
                String[] two = rest.split("@");
                return leadOf(Integer.parseInt(two[0]), Integer.parseInt(two[1]));
        }
    }

    int stopped(int what) {
        if (what != 0 && what != 1) {
            return BeamCuts.BAD_VALUE;
        }
        if (stopNumber < 0) {
            return BeamCuts.NONE;
        }
        return what == 0 ? stopNumber : stopError;
    }

    int undo() {
        if (history.isEmpty()) {
            return BeamCuts.NONE;
        }
        now = history.remove(history.size() - 1);
        return history.size();
    }

    int keep() {
        kept = now.copy();
        return now.parts.size();
    }

    int restore() {
        if (kept == null) {
            return BeamCuts.NONE;
        }
        State before = now;
        now = kept.copy();
        return act(before, now.parts.size());
    }

    int shape(int shape, int what) {
        if (unknown(shape)) {
            return BeamCuts.UNKNOWN;
        }
        if (what < 0 || what > 10) {
            return BeamCuts.BAD_VALUE;
        }
        Part p = now.parts.get(shape);
        int outer = BeamCuts.NONE;
        int inside = 0;
        for (int i = 0; i < now.parts.size(); i++) {
            Part o = now.parts.get(i);
            if (i != shape && o.inside(p)) {
                inside += 1 << i;
            }
            if (i != shape && p.inside(o) && (outer < 0
                    || o.fields.cardinality() < now.parts.get(outer).fields.cardinality())) {
                outer = i;
            }
        }
        return new int[] {p.left, p.top, p.width, p.height, p.lead, p.how, outer, inside,
            p.edge.cardinality(), p.tilted, p.rank}[what];
    }

    int heat(int square) {
        return square < 0 || square > 11 ? BeamCuts.UNKNOWN : now.heat[square];
    }

    int reason(int shape) {
        return unknown(shape) ? BeamCuts.UNKNOWN : now.reason(shape);
    }

    int takes(int shape) {
        return unknown(shape) ? BeamCuts.UNKNOWN : now.takes(shape);
    }

    int coolsIn(int shape) {
        return unknown(shape) ? BeamCuts.UNKNOWN : now.coolsIn(shape);
    }

    int best() {
        return now.best();
    }

    int ordered(int rank) {
        if (rank < 0) {
            return BeamCuts.BAD_VALUE;
        }
        List<Integer> order = now.copy().cutAll();
        return rank < order.size() ? order.get(rank) : BeamCuts.NONE;
    }

    int allTakes() {
        State s = now.copy();
        s.cutAll();
        return s.wholes() > 0 ? BeamCuts.NONE : s.ticks - now.ticks;
    }

    int count(int what) {
        if (what < 0 || what > 18) {
            return BeamCuts.BAD_VALUE;
        }
        int tilted = 0;
        for (Part p : now.parts) {
            tilted += p.tilted;
        }
        int lowest = 11;
        int all = 0;
        for (int q = 11; q >= 0; q--) {
            lowest = now.heat[q] == now.hottest() ? q : lowest;
            all += now.heat[q];
        }
        return new int[] {now.parts.size(), now.wholes(), now.how(1), now.how(2), tilted, now.dirt, now.column,
            now.row, now.ticks, now.burning, now.hottest(), lowest, all, now.settings[0], now.settings[1],
            now.settings[2], now.settings[3], history.size(), text.length()}[what];
    }
}
