import java.util.Arrays;

/**
 * Each sentence of "Terms, HISTORY" and "Terms, ERRORS" and of the promises 12 to 14 that names a boundary case has a
 * test of its own.
 */
public final class HistoryTest {
    private static final int UNKNOWN = -1;
    private static final int BAD_VALUE = -2;
    private static final int FULL = -3;
    private static final int NOT_POSSIBLE = -4;
    private static final int NONE = -5;
    private static final int LEAST = Integer.MIN_VALUE;
    private static final int GREATEST = Integer.MAX_VALUE;
    private static final int ACTS = 8;
    private static final int REFUSALS = 38;

    private HistoryTest() {
    }

    private static void due(String call, long got, long want) {
        Due.due("history: " + call, got, want);
    }

    /** Three shapes of which one is cut with another lead than at first, a dirty lens, and heat in two squares. */
    private static BeamCuts used() {
        BeamCuts x = new BeamCuts();
        x.tell(1, 2, 12, 10);
        x.tell(5, 4, 4, 5);
        x.tell(20, 3, 3, 4);
        x.set(0, 7);
        x.set(1, 0);
        x.set(2, 40);
        x.setLead(1, 2);
        x.setLead(2, 1);
        x.cut(1);
        Due.write(x, "w2");
        return x;
    }

    /** One act of each kind. */
    private static int act(BeamCuts x, int kind) {
        switch (kind) {
            case 0: return x.tell(26, 18, 5, 5);
            case 1: return x.setLead(2, 3);
            case 2: return x.set(1, 3);
            case 3: return x.cut(2);
            case 4: return x.pause(11);
            case 5: return x.clean();
            case 6: return x.perform();
            default: return x.restore();
        }
    }

    // ---- history

    /** "A history of at most 4 states is kept; when one more is recorded, the oldest one is dropped". */
    private static void fourStates() {
        for (int acts = 0; acts <= 9; acts++) {
            BeamCuts x = new BeamCuts();
            int ticks = 0;
            for (int i = 1; i <= acts; i++) {
                x.pause(i);
                ticks += i;
                due("states behind " + i + " acts", x.count(17), Math.min(i, 4));
            }
            int kept = Math.min(acts, 4);
            for (int i = 0; i < kept; i++) {
                due("undo() " + i + " of " + acts, x.undo(), kept - 1 - i);
                ticks -= acts - i;
                due("ticks behind undo() " + i + " of " + acts, x.count(8), ticks);
                due("states left", x.count(17), kept - 1 - i);
            }
            due("the history of " + acts + " acts is empty", x.undo(), NONE);
            due("and stays so", x.undo(), NONE);
            due("what was dropped is not undone", x.count(8), ticks);
            due("one act more", x.pause(5), 0);
            due("is recorded", x.count(17), 1);
            due("and undone", x.undo(), 0);
            due("alone", x.count(8), ticks);
        }
    }

    /** "Each call of a method that is described as an act ... records the state that was before it." */
    private static void eachActIsRecorded() {
        for (int kind = 0; kind < ACTS; kind++) {
            BeamCuts x = used();
            x.keep();
            x.undo();
            x.undo();
            x.cut(1);
            due("states before the act " + kind, x.count(17), 3);
            int[] before = Look.stateOf(x);
            due("act " + kind + " is no error", act(x, kind) >= 0 ? 1 : 0, 1);
            due("states behind the act " + kind, x.count(17), 4);
            due("the act " + kind + " changes the state", Arrays.equals(Look.stateOf(x), before) ? 1 : 0, 0);
            due("undo() of the act " + kind, x.undo(), 3);
            Look.same("history: undone act " + kind, Look.stateOf(x), before);
            due("the text behind the act " + kind, x.count(18), 2);
        }
    }

    /** What is no act records nothing and undoes nothing, whatever it answers. */
    private static void noActs() {
        BeamCuts x = used();
        x.undo();
        int[] before = Look.at(x);
        Look.same("history: what is told changes nothing", Look.at(x), before);
        due("keep()", x.keep(), 3);
        due("keep() again", x.keep(), 3);
        due("stopped(0)", x.stopped(0), NONE);
        Look.same("history: keep() is no act", Look.at(x), before);
        x.type('k');
        x.type('x');
        x.clearText();
        x.type('w');
        x.type('2');
        Look.same("history: typing is no act", Look.at(x), before);
        due("undo()", x.undo(), 2);
        due("undo() is no act", x.undo(), 1);
        due("so the states get fewer", x.count(17), 1);
    }

    /** "There is one snapshot, empty at first." Promise 13: "in place of the one that was". */
    private static void oneSnapshot() {
        BeamCuts x = new BeamCuts();
        due("restore() of none", x.restore(), NONE);
        x.tell(0, 0, 4, 4);
        x.cut(0);
        int[] before = Look.at(x);
        due("restore() of none, with a shape", x.restore(), NONE);
        Look.same("history: it changes nothing", Look.at(x), before);
        due("keep() of one", x.keep(), 1);
        due("the text is no part of it", x.type('x'), 1);
        int[] first = Look.stateOf(x);
        x.tell(4, 0, 4, 4);
        due("restore() of one", x.restore(), 1);
        Look.same("history: as it was kept", Look.stateOf(x), first);
        x.tell(8, 0, 3, 3);
        x.pause(2);
        due("keep() of two, in place of it", x.keep(), 2);
        int[] second = Look.stateOf(x);
        x.cut(1);
        x.undo();
        x.undo();
        x.undo();
        due("undo() does not take it back", x.restore(), 2);
        Look.same("history: the later one", Look.stateOf(x), second);
        due("another object has none", new BeamCuts().restore(), NONE);
        BeamCuts y = new BeamCuts();
        due("keep() without shapes", y.keep(), 0);
        y.tell(0, 0, 2, 2);
        due("restore() of no shapes", y.restore(), 0);
        due("is recorded", y.count(17), 2);
        due("none is left", y.count(0), 0);
    }

    /** Promises 13 and 14: "Returns how many shapes there are", none of them whole, and twelve. */
    private static void shapesThereAre() {
        BeamCuts x = new BeamCuts();
        x.set(3, 0);
        x.tell(0, 0, 9, 9);
        x.tell(2, 2, 3, 3);
        x.cut(0);
        due("keep() of a cut and a lost one", x.keep(), 2);
        x.tell(10, 0, 2, 2);
        due("restore() of a cut and a lost one", x.restore(), 2);
        for (int i = 2; i < 12; i++) {
            due("the next one's number", x.tell(10 + 2 * (i - 2), 0, 2, 2), i);
        }
        due("keep() of twelve", x.keep(), 12);
        x.undo();
        due("eleven are left", x.count(0), 11);
        due("restore() of twelve", x.restore(), 12);
        due("the twelfth", x.shape(11, 0), 28);
    }

    /** Promise 14: "Restores the state of the snapshot, which stays. This is an act." */
    private static void snapshotStays() {
        BeamCuts x = used();
        x.keep();
        int[] kept = Look.stateOf(x);
        for (int i = 0; i < 4; i++) {
            act(x, i);
            due("restore() " + i, x.restore(), 3);
            Look.same("history: restored behind the act " + i, Look.stateOf(x), kept);
        }
        due("states", x.count(17), 4);
        BeamCuts y = new BeamCuts();
        y.keep();
        due("a state like the snapshot", y.restore(), 0);
        due("is recorded, too", y.count(17), 1);
        due("undo()", y.undo(), 0);
        y.pause(3);
        y.restore();
        due("the ticks of the snapshot", y.count(8), 0);
        due("undo() of restore()", y.undo(), 1);
        due("the ticks before it", y.count(8), 3);
        due("behind it the snapshot stays", y.restore() + y.count(8), 0);
    }

    /** "A state is everything but the text, the history, the snapshot and the latest stop." */
    private static void everythingElse() {
        BeamCuts x = used();
        x.keep();
        int[] kept = Look.stateOf(x);
        due("cut(2)", x.cut(2), 0);
        x.setLead(0, 3);
        x.cut(0);
        x.set(0, 99);
        x.set(1, 5);
        x.set(2, 3);
        x.set(3, 0);
        x.tell(0, 18, 5, 5);
        x.pause(50);
        x.cut(3);
        int[] wrecked = Look.stateOf(x);
        // The lost ones are none before and behind; all other counts are others.
        for (int what : new int[] {0, 1, 2, 4, 5, 6, 7, 8, 9, 10, 11, 12, 13, 14, 15, 16}) {
            due("count(" + what + ") is another one", kept[what] == wrecked[what] ? 1 : 0, 0);
        }
        due("stopped", Due.perform(x, "c9"), NOT_POSSIBLE);
        due("restore()", x.restore(), 3);
        Look.same("history: all is restored", Look.stateOf(x), kept);
        due("the text stays", x.count(18), 2);
        due("the stop stays", x.stopped(1), UNKNOWN);
        due("the history stays", x.count(17), 4);
        due("undo() of restore()", x.undo(), 3);
        Look.same("history: all is undone", Look.stateOf(x), wrecked);
        x.restore();
        due("the next cut's rank", x.cut(2) + x.shape(2, 10), 1);
        due("the heat is the snapshot's with that cut", x.count(12), kept[12] + 10);
    }

    /** A state in the history stays as it was, whatever comes behind it. */
    private static void statesStayApart() {
        BeamCuts x = new BeamCuts();
        x.tell(6, 9, 5, 2);
        int[][] states = new int[4][];
        states[0] = Look.stateOf(x);
        x.setLead(0, 2);
        states[1] = Look.stateOf(x);
        x.cut(0);
        states[2] = Look.stateOf(x);
        x.tell(12, 12, 6, 6);
        states[3] = Look.stateOf(x);
        x.cut(1);
        for (int i = 3; i >= 0; i--) {
            due("undo()", x.undo(), i);
            Look.same("history: state " + i, Look.stateOf(x), states[i]);
        }
        x.cut(0);
        due("another one is told in its place", x.tell(20, 12, 4, 4), 1);
        x.undo();
        due("its cut is undone", x.undo(), 0);
        due("the first state's ticks, heat and lead again", x.count(8) + x.count(12) + x.shape(0, 4), 0);
        due("its beam and dirt", x.count(5) + x.count(6) + x.count(7), 0);
        due("its shapes", x.count(0) + x.count(1), 2);
    }

    /** Promise 12: "Returns the number of states that are left; NONE if the history is empty." */
    private static void emptyHistory() {
        BeamCuts x = new BeamCuts();
        int[] before = Look.at(x);
        due("undo() of a new object", x.undo(), NONE);
        Look.same("history: it changes nothing", Look.at(x), before);
        x.tell(31, 23, 2, 2);
        x.set(0, 20);
        x.clean();
        x.restore();
        due("errors and NONE leave it empty", x.undo(), NONE);
        x.keep();
        x.type('k');
        due("keep() and type() leave it empty", x.undo(), NONE);
    }

    // ---- errors

    /** Each call that is refused, with what is due on the sheet of refusing(). */
    private static int refused(BeamCuts x, int which) {
        switch (which) {
            case 0: return x.tell(-1, 0, 2, 2);
            case 1: return x.tell(0, 0, 33, 2);
            case 2: return x.tell(31, 0, 2, 2);
            case 3: return x.tell(0, 0, 3, 3);
            case 4: return x.tell(17, 2, 2, 2);
            case 5: return x.tell(15, 0, 8, 8);
            case 6: return x.setLead(-1, 1);
            case 7: return x.setLead(12, 1);
            case 8: return x.setLead(0, 4);
            case 9: return x.setLead(0, -1);
            case 10: return x.setLead(2, 1);
            case 11: return x.setLead(3, 1);
            case 12: return x.setLead(0, 0);
            case 13: return x.set(4, 1);
            case 14: return x.set(-1, 1);
            case 15: return x.set(0, 0);
            case 16: return x.set(3, 2);
            case 17: return x.set(1, 0);
            case 18: return x.cut(-1);
            case 19: return x.cut(5);
            case 20: return x.cut(2);
            case 21: return x.cut(3);
            case 22: return x.cut(0);
            case 23: return x.cut(4);
            case 24: return x.pause(0);
            case 25: return x.pause(1000);
            case 26: return x.clean();
            case 27: return x.restore();
            case 28: return x.stopped(2);
            case 29: return x.shape(5, 0);
            case 30: return x.shape(0, 11);
            case 31: return x.heat(12);
            case 32: return x.reason(5);
            case 33: return x.takes(3);
            case 34: return x.coolsIn(2);
            case 35: return x.coolsIn(4);
            case 36: return x.ordered(-1);
            default: return x.count(19);
        }
    }

    private static final int[] REFUSED_WITH = {BAD_VALUE, BAD_VALUE, BAD_VALUE, NOT_POSSIBLE, NOT_POSSIBLE,
        NOT_POSSIBLE, UNKNOWN, UNKNOWN, UNKNOWN, UNKNOWN, NOT_POSSIBLE, NOT_POSSIBLE, NONE, UNKNOWN, UNKNOWN, BAD_VALUE,
        BAD_VALUE, NONE, UNKNOWN, UNKNOWN, -11, -12, -13, -14, BAD_VALUE, BAD_VALUE, NONE, NONE, BAD_VALUE, UNKNOWN,
        BAD_VALUE, UNKNOWN, UNKNOWN, NOT_POSSIBLE, NOT_POSSIBLE, NONE, BAD_VALUE, BAD_VALUE};

    /** 0 holds 1; 2 is cut and 3 is lost inside it; 4 is too hot; the lens is clean; two states are left. */
    private static BeamCuts refusing() {
        BeamCuts x = new BeamCuts();
        x.set(1, 0);
        x.tell(0, 0, 8, 8);
        x.tell(2, 2, 4, 4);
        x.tell(16, 1, 6, 6);
        x.tell(18, 3, 2, 2);
        x.tell(16, 7, 4, 4);
        x.set(3, 0);
        x.cut(2);
        x.set(3, 1);
        x.set(2, 3);
        x.clean();
        x.undo();
        x.undo();
        x.undo();
        x.set(3, 1);
        x.set(2, 3);
        x.clean();
        x.undo();
        x.clean();
        return x;
    }

    /** "A call that returns an error or NONE changes nothing (but for the latest stop of perform())." */
    private static void refusalsChangeNothing() {
        for (int which = 0; which < REFUSALS; which++) {
            BeamCuts x = refusing();
            int[] before = Look.at(x);
            due("refusal " + which, refused(x, which), REFUSED_WITH[which]);
            Look.same("history: refusal " + which, Look.at(x), before);
            due("undo() behind the refusal " + which, x.undo(), before[17] - 1);
            due("undoes the act before, " + which, x.count(5), 1);
        }
        BeamCuts x = refusing();
        int[] before = Look.at(x);
        for (int which = 0; which < REFUSALS; which++) {
            due("refusal " + which + " behind others", refused(x, which), REFUSED_WITH[which]);
        }
        Look.same("history: all refusals", Look.at(x), before);
    }

    /** The same for perform(): all but the latest stop is as before. */
    private static void plansChangeNothing() {
        String[] plans = {"c1;c0;c2", "c1;l1@1", "l0@1;c9", "c1;w9;k;c3", "c1;", "", "c1;w1000"};
        int[] answers = {NOT_POSSIBLE, NOT_POSSIBLE, NOT_POSSIBLE, NOT_POSSIBLE, -103, -100, -107};
        for (int i = 0; i < plans.length; i++) {
            BeamCuts x = refusing();
            x.set(2, 999);
            Due.write(x, plans[i]);
            int[] before = Look.at(x);
            due("perform() of " + plans[i], x.perform(), answers[i]);
            int[] now = Look.at(x);
            boolean stops = answers[i] == NOT_POSSIBLE;
            due("its stop is told: " + plans[i], now[now.length - 1] != NONE ? 1 : 0, stops ? 1 : 0);
            int told = before.length - 2;
            Look.same("history: " + plans[i], Arrays.copyOf(now, told), Arrays.copyOf(before, told));
        }
    }

    /** FULL and NOT_POSSIBLE with twelve shapes leave all as it was. */
    private static void fullChangesNothing() {
        BeamCuts x = new BeamCuts();
        for (int i = 0; i < 12; i++) {
            x.tell(2 * i, 2 * (i % 3), 2, 2);
        }
        int[] before = Look.at(x);
        due("the thirteenth", x.tell(28, 20, 3, 3), FULL);
        due("the thirteenth across another one", x.tell(1, 0, 2, 2), NOT_POSSIBLE);
        due("the thirteenth off the sheet", x.tell(28, 23, 3, 3), BAD_VALUE);
        Look.same("history: full", Look.at(x), before);
    }

    /** "Where several errors can apply, the order of the @return line is the order of the checks." */
    private static void orderOfErrors() {
        BeamCuts x = refusing();
        due("tell: a bad value before what is not possible", x.tell(16, 1, 17, 2), BAD_VALUE);
        due("setLead: unknown before not possible", x.setLead(2, 4), UNKNOWN);
        due("setLead: unknown shape and corner", x.setLead(5, 4), UNKNOWN);
        due("setLead: not possible before NONE", x.setLead(2, 0), NOT_POSSIBLE);
        due("setLead: not possible before NONE, lost", x.setLead(3, 0), NOT_POSSIBLE);
        due("set: unknown before a bad value", x.set(4, -1), UNKNOWN);
        due("set: unknown before a bad value, -1", x.set(-1, 1000), UNKNOWN);
        due("shape: unknown before a bad value", x.shape(5, 11), UNKNOWN);
        due("shape: unknown before a bad value, -1", x.shape(-1, -1), UNKNOWN);
        due("shape: a bad value before NONE", x.shape(0, 11), BAD_VALUE);
        due("stopped: a bad value before NONE", x.stopped(-1), BAD_VALUE);
        due("ordered: a bad value before NONE", new BeamCuts().ordered(-1), BAD_VALUE);
        due("coolsIn: not possible before NONE", x.coolsIn(0), NOT_POSSIBLE);
        due("takes: unknown before not possible", x.takes(-1), UNKNOWN);
        due("perform: a fault before what is stopped", Due.perform(x, "c9;x"), -103);
        due("and no stop is told", x.stopped(0), NONE);
        BeamCuts full = new BeamCuts();
        for (int i = 0; i < 12; i++) {
            full.tell(2 * i, 0, 2, 2);
        }
        due("tell: a bad value before full", full.tell(30, 23, 2, 2), BAD_VALUE);
        due("tell: not possible before full", full.tell(22, 1, 3, 3), NOT_POSSIBLE);
        due("tell: full at last", full.tell(22, 2, 3, 3), FULL);
        for (int odd : new int[] {LEAST, GREATEST}) {
            due("setLead of " + odd, full.setLead(odd, odd), UNKNOWN);
            due("set of " + odd, full.set(odd, odd), UNKNOWN);
            due("shape of " + odd, full.shape(odd, odd), UNKNOWN);
            due("tell of " + odd, full.tell(odd, odd, odd, odd), BAD_VALUE);
        }
    }

    public static void main(String[] args) {
        fourStates();
        eachActIsRecorded();
        noActs();
        oneSnapshot();
        shapesThereAre();
        snapshotStays();
        everythingElse();
        statesStayApart();
        emptyHistory();
        refusalsChangeNothing();
        plansChangeNothing();
        fullChangesNothing();
        orderOfErrors();
        Due.end();
    }
}
