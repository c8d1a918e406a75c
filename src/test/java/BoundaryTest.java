import java.util.Arrays;

/**
 * Each sentence of the promises 1 to 7 and 15 to 23 that names a boundary case has a test of its own here; those of the
 * promises 8 to 11 are in TextsTest, those of 12 to 14 in HistoryTest.
 */
public final class BoundaryTest {
    private static final int UNKNOWN = -1;
    private static final int BAD_VALUE = -2;
    private static final int FULL = -3;
    private static final int NOT_POSSIBLE = -4;
    private static final int NONE = -5;
    private static final int LEAST = Integer.MIN_VALUE;
    private static final int GREATEST = Integer.MAX_VALUE;

    private BoundaryTest() {
    }

    private static void due(String call, long got, long want) {
        Due.due("promise " + call, got, want);
    }

    private static BeamCuts sheet(int[]... shapes) {
        BeamCuts x = new BeamCuts();
        for (int i = 0; i < shapes.length; i++) {
            due("2: tell" + Arrays.toString(shapes[i]), x.tell(shapes[i][0], shapes[i][1], shapes[i][2], shapes[i][3]),
                i);
        }
        return x;
    }

    private static BeamCuts with(BeamCuts x, int... settings) {
        for (int i = 0; i < settings.length; i += 2) {
            x.set(settings[i], settings[i + 1]);
        }
        return x;
    }

    private static BeamCuts row(int shapes) {
        int[][] all = new int[shapes][];
        for (int i = 0; i < shapes; i++) {
            all[i] = new int[] {2 * i, 0, 2, 2};
        }
        return sheet(all);
    }

    /** "An object is used for at most 512 calls after it has been made": the 512th is answered, too. */
    private static void lastCall() {
        BeamCuts x = new BeamCuts();
        for (int call = 1; call < 512; call++) {
            x.pause(1 + call % 999);
        }
        int ticks = 0;
        for (int call = 1; call < 512; call++) {
            ticks += 1 + call % 999;
        }
        due("23: the 512th call", x.count(8), ticks);
        x = new BeamCuts();
        for (int i = 0; i < 12; i++) {
            x.tell(2 * i, 0, 2, 2);
        }
        for (int call = 13; call < 512; call++) {
            int answer = call % 2 == 1 ? x.cut(call % 12) : x.undo();
            due("5, 12: the call " + call, answer, call % 2 == 1 ? 0 : 3);
        }
        due("1: the 512th call behind cuts", x.count(2), 1);
    }

    // ---- promises 1 to 4

    /** Promise 1: "Creates a cold sheet without shapes." */
    private static void newObject() {
        BeamCuts x = new BeamCuts();
        int[] due = new int[36];
        due[13] = 20;
        due[14] = 1;
        due[15] = 150;
        due[16] = 1;
        due[31] = NONE;
        due[32] = NONE;
        due[33] = 0;
        due[34] = NONE;
        due[35] = NONE;
        Look.same("promise 1: all that a new object tells", Look.at(x), due);
        for (int shape = -1; shape <= 12; shape++) {
            due("1: shape(" + shape + ", 0)", x.shape(shape, 0), UNKNOWN);
            due("1: cut(" + shape + ")", x.cut(shape), UNKNOWN);
            due("1: takes(" + shape + ")", x.takes(shape), UNKNOWN);
        }
        due("1: undo()", x.undo(), NONE);
        due("1: restore()", x.restore(), NONE);
        due("1: clean()", x.clean(), NONE);
        due("1: clearText()", x.clearText(), 0);
        due("1: perform()", x.perform(), -100);
    }

    /** Promise 2: "Tells a shape, whose lead is its upper left corner"; it is whole. "Returns its number". */
    private static void toldShape() {
        int[][] shapes = {{0, 0, 2, 2}, {30, 0, 2, 24}, {0, 22, 28, 2}, {3, 3, 20, 18}, {4, 4, 2, 2}};
        BeamCuts x = sheet(shapes);
        for (int i = 0; i < shapes.length; i++) {
            for (int what = 0; what < 4; what++) {
                due("2: shape(" + i + ", " + what + ")", x.shape(i, what), shapes[i][what]);
            }
            due("2: its lead", x.shape(i, 4), 0);
            due("2: it is whole", x.shape(i, 5), 0);
            due("2: it has not tilted", x.shape(i, 9), 0);
            due("2: it has no rank", x.shape(i, 10), NONE);
        }
    }

    /** Promise 2: the same of one that takes the number of one that was undone, or comes behind a refused one. */
    private static void toldAnew() {
        BeamCuts x = with(sheet(new int[] {0, 0, 12, 12}), 3, 0);
        x.keep();
        x.tell(2, 2, 4, 4);
        x.setLead(1, 2);
        x.cut(1);
        due("2: it tilted", x.shape(1, 9), 1);
        due("2: before it was told", x.restore(), 1);
        due("2: none was cut then", x.count(2) + x.count(4), 0);
        due("2: one of that number", x.tell(20, 12, 3, 3), 1);
        due("2: its lead", x.shape(1, 4), 0);
        due("2: it is whole", x.shape(1, 5), 0);
        due("2: it has not tilted", x.shape(1, 9), 0);
        due("2: it has no rank", x.shape(1, 10), NONE);
        due("2: its way", x.takes(1), 32 + 16);
        due("2: none is inside the first", x.shape(0, 7), 0);

        x = sheet(new int[][] {{0, 0, 12, 12}, {4, 4, 4, 4}});
        x.cut(1);
        due("2: inside the first, across the second", x.tell(2, 2, 4, 4), NOT_POSSIBLE);
        due("2: what is refused is not inside", x.reason(0), 0);
        due("2: nor told as such", x.shape(0, 7), 2);
        x.tell(2, 2, 2, 2);
        x.undo();
        due("2: what is undone is not inside", x.reason(0), 0);
        x.set(3, 0);
        x.tell(2, 2, 2, 2);
        x.undo();
        due("2: nor lost", x.cut(0), 0);
    }

    /** Promise 2: "NOT_POSSIBLE if ... it lies inside a shape that is cut or lost, or a shape inside it is". */
    private static void tellByCutOnes() {
        BeamCuts x = sheet(new int[][] {{2, 2, 20, 16}, {8, 8, 4, 4}});
        x.cut(1);
        due("2: inside a whole one, around a cut one", x.tell(7, 7, 6, 6), NOT_POSSIBLE);
        due("2: around both", x.tell(1, 1, 22, 18), NOT_POSSIBLE);
        due("2: inside the cut one", x.tell(9, 9, 2, 2), NOT_POSSIBLE);
        due("2: as large as the cut one", x.tell(8, 8, 4, 4), NOT_POSSIBLE);
        due("2: across the cut one", x.tell(10, 10, 4, 4), NOT_POSSIBLE);
        due("2: inside the whole one, beside the cut one", x.tell(12, 8, 4, 4), 2);
        due("2: beside all", x.tell(22, 2, 4, 4), 3);
        due("2: it hinders as a whole one", x.reason(0), 3);

        x = with(sheet(new int[][] {{2, 2, 20, 16}, {8, 8, 6, 6}, {23, 0, 4, 4}}), 3, 0);
        x.cut(0);
        due("2: inside a cut one, around a lost one", x.tell(7, 7, 8, 8), NOT_POSSIBLE);
        due("2: inside a cut one, beside a lost one", x.tell(3, 3, 4, 4), NOT_POSSIBLE);
        due("2: inside a lost one", x.tell(10, 10, 2, 2), NOT_POSSIBLE);
        due("2: around a cut one", x.tell(1, 1, 22, 18), NOT_POSSIBLE);
        due("2: beside it, inside a whole one", x.tell(24, 1, 2, 2), 3);
        x.undo();
        x.undo();
        due("2: when the cut is undone", x.tell(3, 3, 4, 4), 3);
    }

    /** Promise 2: "FULL if 12 were told": the twelfth is told, the thirteenth is not. */
    private static void tellFull() {
        BeamCuts x = row(11);
        due("2: the twelfth", x.tell(22, 0, 2, 2), 11);
        due("2: the thirteenth", x.tell(24, 0, 2, 2), FULL);
        due("2: undo() of the twelfth", x.undo(), 3);
        due("2: another twelfth", x.tell(24, 0, 2, 2), 11);
        due("2: another thirteenth", x.tell(22, 0, 2, 2), FULL);
        due("2: around all", x.tell(0, 4, 32, 20), FULL);
    }

    /** Promise 3: "Returns the previous one; ... NONE if it is so already": from each corner to each. */
    private static void leads() {
        for (int from = 0; from < 4; from++) {
            for (int to = 0; to < 4; to++) {
                BeamCuts x = row(1);
                x.setLead(0, from);
                int states = x.count(17);
                due("3: from " + from + " to " + to, x.setLead(0, to), from == to ? NONE : from);
                due("3: the lead is " + to, x.shape(0, 4), to);
                due("3: states", x.count(17), from == to ? states : states + 1);
            }
        }
        BeamCuts x = row(12);
        for (int shape = -2; shape <= 13; shape++) {
            for (int corner = -2; corner <= 5; corner++) {
                boolean known = shape >= 0 && shape <= 11 && corner >= 0 && corner <= 3;
                if (!known) {
                    due("3: setLead(" + shape + ", " + corner + ")", x.setLead(shape, corner), UNKNOWN);
                }
            }
            due("3: setLead(" + shape + ", 3)", x.setLead(shape, 3), shape >= 0 && shape <= 11 ? 0 : UNKNOWN);
        }
    }

    /** Promise 4: "Returns the previous one; UNKNOWN; BAD_VALUE; NONE if it is so already": all values of each. */
    private static void settings() {
        int[] least = {1, 0, 0, 0};
        int[] most = {99, 20, 999, 1};
        int[] first = {20, 1, 150, 1};
        for (int which = 0; which < 4; which++) {
            BeamCuts x = new BeamCuts();
            int previous = first[which];
            int calls = 0;
            for (int value = least[which] - 2; value <= most[which] + 2; value++) {
                boolean isBad = value < least[which] || value > most[which];
                int want = isBad ? BAD_VALUE : value == previous ? NONE : previous;
                due("4: set(" + which + ", " + value + ")", x.set(which, value), want);
                previous = isBad ? previous : value;
                calls++;
                if (calls == 500) {
                    x = with(new BeamCuts(), which, previous);
                    calls = 1;
                }
            }
            due("4: the setting " + which, x.count(13 + which), most[which]);
            due("4: set(" + which + ", LEAST)", x.set(which, LEAST), BAD_VALUE);
            due("4: set(" + which + ", GREATEST)", x.set(which, GREATEST), BAD_VALUE);
        }
        BeamCuts x = new BeamCuts();
        for (int which : new int[] {LEAST, -2, -1, 4, 5, 13, GREATEST}) {
            due("4: set(" + which + ", 1)", x.set(which, 1), UNKNOWN);
        }
        due("4: nothing is changed", x.count(13) + x.count(14) + x.count(15) + x.count(16) + x.count(17), 172);
    }

    // ---- promises 5 to 7

    /** Promise 5: "Returns how many shapes are lost by it": none, one, and all that can be. */
    private static void lostByCut() {
        BeamCuts x = row(2);
        due("5: none", x.cut(0), 0);
        x = with(sheet(new int[][] {{0, 0, 4, 4}, {1, 1, 2, 2}, {4, 0, 4, 4}}), 3, 0);
        due("5: one", x.cut(0), 1);
        due("5: none beside it", x.cut(2), 0);
        x = sheet(new int[][] {{1, 1, 2, 2}, {0, 0, 4, 4}});
        due("5: with the shape 0 inside", x.cut(1), -13);
        x.set(3, 0);
        due("5: the shape 0", x.cut(1), 1);
        due("5: it is lost", x.shape(0, 5), 2);
        int[][] shapes = new int[12][];
        shapes[0] = new int[] {0, 0, 32, 24};
        for (int i = 1; i < 12; i++) {
            shapes[i] = new int[] {2 * i, 2, 2, 2};
        }
        x = with(sheet(shapes), 3, 0);
        due("5: eleven", x.cut(0), 11);
        x = sheet(shapes);
        for (int i = 1; i < 12; i++) {
            due("5: with a whole one inside", x.cut(0), -13);
            due("5: cut(" + i + ")", x.cut(i), 0);
        }
        due("5: with none left", x.cut(0), 0);
        due("5: all are cut", x.count(2), 12);
    }

    /** Promise 5: "UNKNOWN; REFUSED minus the reason": 1 to 4. */
    private static void refusedCuts() {
        BeamCuts x = with(sheet(new int[][] {{0, 0, 8, 8}, {1, 1, 3, 3}, {8, 8, 8, 8}, {9, 9, 3, 3}}), 1, 0);
        for (int shape : new int[] {LEAST, -5, -1, 4, 11, 12, GREATEST}) {
            due("5: cut(" + shape + ")", x.cut(shape), UNKNOWN);
        }
        due("5: a whole one is inside", x.cut(0), BeamCuts.REFUSED - 3);
        x.cut(1);
        due("5: it is cut", x.cut(1), BeamCuts.REFUSED - 1);
        x.set(3, 0);
        x.cut(2);
        due("5: it is lost", x.cut(3), BeamCuts.REFUSED - 2);
        x.set(2, 7);
        due("5: it is too hot", x.cut(0), BeamCuts.REFUSED - 4);
        due("5: reason 4 with the heat", x.heat(0), 8);
        x.set(2, 8);
        due("5: it is just not too hot", x.cut(0), 0);
    }

    /** Promise 6: "ticks: 1 to 999"; "Returns the greatest heat of a square then". */
    private static void pauses() {
        BeamCuts x = with(sheet(new int[][] {{0, 0, 8, 8}, {24, 16, 8, 7}, {8, 0, 4, 4}}), 1, 0);
        for (int ticks : new int[] {LEAST, -999, -1, 0, 1000, 1001, GREATEST}) {
            due("6: pause(" + ticks + ")", x.pause(ticks), BAD_VALUE);
        }
        due("6: without heat", x.pause(1), 0);
        x.cut(1);
        due("6: heat in the last square", x.pause(1), 26);
        x.cut(0);
        due("6: more in the first square", x.pause(999), 28);
        x.set(1, 1);
        due("6: after one tick", x.pause(1), 27);
        due("6: before the last heat fades", x.pause(26), 1);
        due("6: when it has faded", x.pause(1), 0);
        due("6: when there is none", x.pause(1), 0);
        due("6: ticks", x.count(8) - x.count(9), 2 + 24 + 16 + 40 + 999 + 29);
    }

    /** Promise 7: "Returns the dirt that it had; NONE if it has none." */
    private static void cleanings() {
        BeamCuts x = with(row(12), 0, 1);
        due("7: none at first", x.clean(), NONE);
        due("7: it takes no ticks", x.count(8), 0);
        for (int i = 0; i < 4; i++) {
            x.cut(i);
            due("7: the dirt of one cut", x.clean(), 1);
            due("7: none behind it", x.clean(), NONE);
        }
        for (int i = 4; i < 12; i++) {
            x.cut(i);
        }
        int before = x.count(8);
        due("7: the dirt of eight cuts", x.clean(), 8);
        due("7: one tick", x.count(8), before + 1);
        due("7: it is gone", x.count(5), 0);
    }

    // ---- promises 15 to 18

    /** Promise 15: each number's edges, UNKNOWN and BAD_VALUE. */
    private static void facts() {
        BeamCuts x = row(12);
        for (int what : new int[] {LEAST, -2, -1, 11, 12, GREATEST}) {
            due("15: shape(11, " + what + ")", x.shape(11, what), BAD_VALUE);
        }
        for (int shape : new int[] {LEAST, -2, -1, 12, 13, GREATEST}) {
            for (int what = -1; what <= 11; what++) {
                due("15: shape(" + shape + ", " + what + ")", x.shape(shape, what), UNKNOWN);
            }
        }
        for (int i = 11; i >= 0; i--) {
            due("15: before it is cut", x.shape(i, 10), NONE);
            x.cut(i);
            due("15: the rank of the cut", x.shape(i, 10), 11 - i);
        }
        due("15: the first cut's rank", x.shape(11, 10), 0);
        x.undo();
        x.undo();
        x.clean();
        x.cut(0);
        due("15: the rank of a cut behind a clean lens", x.shape(0, 10), 10);
        x.cut(1);
        due("15: the last cut's rank", x.shape(1, 10), 11);
        int[][] shapes = new int[12][];
        shapes[11] = new int[] {0, 0, 32, 24};
        for (int i = 0; i < 11; i++) {
            shapes[i] = new int[] {1 + 2 * i, 1, 2, 2};
        }
        x = sheet(shapes);
        due("15: eleven inside the last one", x.shape(11, 7), 2047);
        due("15: none inside the first one", x.shape(0, 7), 0);
        due("15: the outer shape", x.shape(0, 6), 11);
        due("15: no outer shape", x.shape(11, 6), NONE);
        x.cut(3);
        due("15: inside is what is cut, too", x.shape(11, 7), 2047);
        x.set(3, 0);
        x.cut(11);
        due("15: and what is lost", x.shape(11, 7), 2047);
        due("15: the outer shape of a lost one, which is cut", x.shape(0, 6), 11);
        due("15: the outer shape of a cut one, which is cut", x.shape(3, 6), 11);
        due("15: the number 0 as outer shape", sheet(new int[][] {{0, 0, 4, 4}, {1, 1, 2, 2}}).shape(1, 6), 0);
    }

    /** Promise 16: "square: 0 to 11"; UNKNOWN. */
    private static void heats() {
        BeamCuts x = with(sheet(new int[][] {{0, 0, 2, 2}, {30, 22, 2, 2}}), 1, 0);
        x.cut(0);
        x.cut(1);
        for (int square = 0; square < 12; square++) {
            due("16: heat(" + square + ")", x.heat(square), square == 0 || square == 11 ? 4 : 0);
        }
        for (int square : new int[] {LEAST, -2, -1, 12, 13, 24, GREATEST}) {
            due("16: heat(" + square + ")", x.heat(square), UNKNOWN);
        }
    }

    /** Promise 16: the greatest heat that a square can have: each of its fields is burned, as in all others. */
    private static void mostHeat() {
        int[][] shapes = new int[12][];
        for (int i = 0; i < 12; i++) {
            shapes[i] = new int[] {i, i, 32 - 2 * i, 24 - 2 * i};
        }
        BeamCuts x = with(sheet(shapes), 1, 0);
        for (int i = 11; i >= 0; i--) {
            due("5: cut(" + i + ")", x.cut(i), 0);
        }
        for (int square = 0; square < 12; square++) {
            due("16: heat(" + square + ") of a sheet that is all burned", x.heat(square), 64);
        }
        due("23: the greatest heat", x.count(10), 64);
        due("23: the lowest square that has it", x.count(11), 0);
        due("23: all heat", x.count(12), 32 * 24);
        // The leads of 11 to 8 are in the square 5, and the square 6 is as hot; those of 7 to 0 are in the square 0,
        // which is as hot at last.
        due("23: those that tilted", x.count(4), 5);
        due("6: pause(999) without fading", x.pause(999), 64);
        x.set(1, 20);
        due("6: pause(3)", x.pause(3), 4);
        due("6: pause(1)", x.pause(1), 0);
    }

    /** Promise 17: "Returns 0 if it can; otherwise the reason 1 to 4; UNKNOWN": as cut() answers. */
    private static void reasons() {
        BeamCuts x = with(sheet(new int[][] {{0, 0, 8, 8}, {1, 1, 3, 3}, {8, 8, 8, 8}, {9, 9, 3, 3}, {24, 0, 2, 2}}),
            1, 0);
        x.cut(1);
        x.set(3, 0);
        x.cut(2);
        x.tell(16, 8, 6, 6);
        x.tell(17, 9, 2, 2);
        x.set(3, 1);
        x.set(2, 7);
        int[] due = {4, 1, 1, 2, 0, 3, 0};
        for (int shape = 0; shape < due.length; shape++) {
            due("17: reason(" + shape + ")", x.reason(shape), due[shape]);
        }
        for (int shape = 0; shape < due.length; shape++) {
            if (due[shape] != 0) {
                due("17: cut(" + shape + ") is refused so", x.cut(shape), -10 - due[shape]);
            }
        }
        for (int shape : new int[] {LEAST, -2, -1, 7, 11, 12, GREATEST}) {
            due("17: reason(" + shape + ")", x.reason(shape), UNKNOWN);
        }
    }

    /** Promise 18: "how many ticks it takes to cut a shape now, with the going, whatever the heat is". */
    private static void takings() {
        BeamCuts x = sheet(new int[][] {{0, 0, 32, 24}, {1, 1, 2, 2}});
        due("18: the greatest edge, no way, a whole one inside", x.takes(0), 216);
        x.setLead(0, 2);
        due("18: the greatest edge, the longest way", x.takes(0), 54 + 216);
        due("18: the least edge", x.takes(1), 2 + 8);
        x.set(2, 0);
        x.set(1, 0);
        x.cut(1);
        due("18: it is too hot", x.reason(0), 4);
        due("18: with that heat", x.takes(0), 30 + 22 + 216);
        due("18: of a cut one", x.takes(1), NOT_POSSIBLE);
        for (int shape : new int[] {LEAST, -2, -1, 2, 11, 12, GREATEST}) {
            due("18: takes(" + shape + ")", x.takes(shape), UNKNOWN);
        }
        x = with(sheet(new int[][] {{0, 0, 6, 6}, {7, 0, 3, 3}, {1, 1, 2, 2}}), 1, 0, 2, 0, 3, 0);
        x.cut(1);
        due("18: its heat hinders", x.reason(0), 4);
        due("18: whatever the heat is", x.takes(0), 7 + 40);
        x.set(2, 999);
        due("18: as without heat", x.takes(0), 7 + 40);
        x.cut(0);
        due("18: of a lost one", x.takes(2), NOT_POSSIBLE);
        x = sheet(new int[][] {{0, 0, 6, 6}, {6, 0, 3, 3}});
        x.cut(0);
        x.set(2, 3);
        due("18: it could be cut behind 11 ticks of waiting", x.coolsIn(1), 11);
        due("18: the waiting is no part of it", x.takes(1), 6 + 16);
        x = row(6);
        for (int i = 0; i < 5; i++) {
            int takes = x.takes(i);
            int before = x.count(8);
            due("18: with the dirt " + i, takes, (i == 0 ? 0 : 2) + (i < 4 ? 8 : 12));
            x.cut(i);
            due("18: as many it takes", x.count(8) - before, takes);
        }
    }

    // ---- promise 19

    /** Promise 19: "for how many ticks the beam must wait until a shape can be cut", for many heats and limits. */
    private static void coolings() {
        for (int by : new int[] {1, 2, 3, 7, 20}) {
            for (int limit = 0; limit <= 30; limit++) {
                BeamCuts x = with(sheet(new int[][] {{1, 1, 6, 6}, {0, 0, 8, 8}}), 1, by);
                x.cut(0);
                x.set(2, limit);
                // The heat is 20, and the way to the shape 1 has 2 fields.
                int due = 0;
                while (20 - by * (due + 2) > limit) {
                    due++;
                }
                String at = "19: limit " + limit + ", by " + by + ": ";
                due(at + "coolsIn", x.coolsIn(1), due);
                due(at + "reason", x.reason(1), due == 0 ? 0 : 4);
                if (due > 1) {
                    x.pause(due - 1);
                    due(at + "one tick too early", x.reason(1), 4);
                    due(at + "then one is left", x.coolsIn(1), 1);
                    x.undo();
                }
                if (due > 0) {
                    x.pause(due);
                    due(at + "then it can", x.cut(1), 0);
                }
            }
        }
    }

    /** Promise 19: "0 if it can now; UNKNOWN; NOT_POSSIBLE for the reasons 1 to 3; NONE if no time serves". */
    private static void coolingsThatAreNone() {
        BeamCuts x = with(sheet(new int[][] {{0, 0, 8, 8}, {1, 1, 3, 3}, {8, 8, 8, 8}, {9, 9, 3, 3}, {24, 0, 2, 2}}),
            1, 0);
        due("19: of one with a whole one inside", x.coolsIn(0), NOT_POSSIBLE);
        x.cut(1);
        due("19: of a cut one", x.coolsIn(1), NOT_POSSIBLE);
        x.set(3, 0);
        x.cut(2);
        due("19: of a lost one", x.coolsIn(3), NOT_POSSIBLE);
        x.set(2, 8);
        due("19: as hot as the limit, and it does not fade", x.coolsIn(0), 0);
        x.set(2, 7);
        due("19: hotter than the limit, and it does not fade", x.coolsIn(0), NONE);
        due("19: elsewhere", x.coolsIn(4), 0);
        x.set(2, 0);
        due("19: of a cold one with the limit 0", x.coolsIn(4), 0);
        due("19: of a hot one with the limit 0", x.coolsIn(0), NONE);
        x.set(1, 1);
        due("19: with the limit 0 on a way of 16", x.coolsIn(0), 0);
        x.setLead(0, 2);
        due("19: with the limit 0 on a way of 2", x.coolsIn(0), 6);
        x.set(1, 20);
        due("19: it fades at once on the way", x.coolsIn(0), 0);
        due("19: of a lost one that was hot", x.coolsIn(3), NOT_POSSIBLE);
        for (int shape : new int[] {LEAST, -2, -1, 5, 11, 12, GREATEST}) {
            due("19: coolsIn(" + shape + ")", x.coolsIn(shape), UNKNOWN);
        }
        x = with(sheet(new int[][] {{0, 0, 8, 8}, {8, 0, 4, 4}, {3, 8, 20, 2}}), 1, 0);
        x.cut(0);
        x.cut(1);
        x.setLead(2, 0);
        x.tell(0, 10, 6, 6);
        x.set(2, 0);
        x.set(1, 1);
        due("19: squares beside its edge do not matter", x.coolsIn(3), 0);
    }

    /** Promise 19: the hottest square of its edge matters, neither the first nor the last one. */
    private static void hottestOfTheEdge() {
        for (int hottest = 0; hottest < 3; hottest++) {
            BeamCuts x = with(new BeamCuts(), 1, 0);
            for (int i = 0; i < 3; i++) {
                int size = i == hottest ? 6 : 3;
                x.tell(8 * i + 1, 1, size, size);
            }
            x.tell(0, 0, 24, 8);
            x.cut(0);
            x.cut(1);
            x.cut(2);
            // The beam is at 17, 1; the way is 18; the heats are 20 and 8 and 8.
            x.set(2, 0);
            x.set(1, 1);
            due("19: the hottest of three is " + hottest, x.coolsIn(3), 2);
            due("19: it is too hot before", x.reason(3), 4);
        }
    }

    // ---- promises 20 to 22

    /** Promise 20: "the one that takes the fewest ticks, of several the lowest"; "NONE if none can be". */
    private static void bestOnes() {
        due("20: without shapes", new BeamCuts().best(), NONE);
        BeamCuts x = sheet(new int[][] {{3, 0, 2, 2}, {0, 3, 2, 2}, {2, 2, 2, 2}});
        due("20: of two that take 11 the lowest", x.best(), 0);
        x.setLead(2, 0);
        x.setLead(0, 1);
        due("20: one that takes 11 by two that take 12", x.best(), 1);
        x.tell(0, 0, 2, 2);
        due("20: one that takes 8", x.best(), 3);
        x.cut(3);
        due("20: when it is cut", x.best(), 1);
        x.set(1, 0);
        x.set(2, 3);
        due("20: none can be for heat", x.best(), NONE);
        x.tell(30, 22, 2, 2);
        due("20: but one far away", x.best(), 4);
        x.set(2, 4);
        due("20: with a greater limit", x.best(), 1);
        x = with(sheet(new int[][] {{0, 0, 12, 4}, {1, 1, 10, 2}}), 3, 1);
        x.setLead(1, 2);
        due("20: one with a whole one inside is not best", x.best(), 1);
        x.set(3, 0);
        due("20: unless it may be", x.takes(0) - x.takes(1), 56 - (12 + 40));
        due("20: the inner one still takes fewer", x.best(), 1);
        x.cut(0);
        due("20: lost and cut ones are not", x.best(), NONE);
        x = row(12);
        for (int i = 11; i > 0; i--) {
            x.cut(i);
        }
        due("20: the last one", x.best(), 0);
        x.cut(0);
        due("20: none is left", x.best(), NONE);
        x = sheet(new int[][] {{4, 0, 3, 2}, {9, 0, 2, 2}});
        // 4 and 12 by 9 and 8: with the dirt 4 it is 4 and 18 by 9 and 12.
        due("20: nearer with a greater edge", x.best(), 0);
        x = sheet(new int[][] {{4, 0, 3, 2}, {7, 0, 2, 2}});
        due("20: farther with a lesser edge", x.best(), 1);
    }

    /** Promise 21: "rank: from 0"; "BAD_VALUE if rank is negative; NONE if there are not so many". */
    private static void ranks() {
        for (int shapes = 0; shapes <= 12; shapes++) {
            BeamCuts x = row(shapes);
            int ticks = shapes == 0 ? 0 : -2;
            for (int rank = 0; rank < shapes; rank++) {
                due("21: ordered(" + rank + ") of " + shapes, x.ordered(rank), rank);
                ticks += 2 + 4 * (2 + rank / 4);
            }
            due("22: allTakes() of " + shapes, x.allTakes(), ticks);
            for (int rank : new int[] {shapes, shapes + 1, 12, 13, GREATEST - 1, GREATEST}) {
                due("21: ordered(" + rank + ") of " + shapes, x.ordered(rank), NONE);
            }
            for (int rank : new int[] {-1, -2, -12, LEAST + 1, LEAST}) {
                due("21: ordered(" + rank + ") of " + shapes, x.ordered(rank), BAD_VALUE);
            }
        }
        BeamCuts x = row(3);
        x.cut(1);
        due("21: cut ones have no rank", x.ordered(0), 0);
        due("21: the last of two", x.ordered(1), 2);
        due("21: not three", x.ordered(2), NONE);
    }

    /** Promise 21: "as best() tells it then": cutting them so gives that order and those ticks, with the dirt. */
    private static void asBestTells() {
        int[][] small = {{0, 0, 2, 2}, {2, 0, 2, 2}, {4, 0, 2, 2}, {6, 0, 2, 2}};
        for (int dirty = 0; dirty <= 4; dirty++) {
            BeamCuts x = new BeamCuts();
            for (int i = 0; i < dirty; i++) {
                x.tell(small[i][0], 0, 2, 2);
            }
            int beam = dirty == 0 ? 0 : 2 * dirty - 2;
            // From the last small one the way is 10 with an edge of 6, or 15 with an edge of 4.
            x.tell(beam, 10, 3, 2);
            x.tell(beam + 15, 0, 2, 2);
            int first = dirty < 4 ? dirty : dirty + 1;
            due("21: behind " + dirty + " small ones", x.ordered(dirty), first);
            int left = x.count(0);
            int ticks = x.allTakes();
            int[] order = new int[left];
            for (int rank = 0; rank < left; rank++) {
                order[rank] = x.ordered(rank);
            }
            for (int rank = 0; rank < left; rank++) {
                due("21: the best one then", x.best(), order[rank]);
                due("21: the first one then", x.ordered(0), order[rank]);
                due("22: the ticks that are left", x.allTakes(), ticks - x.count(8));
                x.cut(order[rank]);
            }
            due("22: the ticks then", x.count(8), ticks);
            due("22: nothing is left", x.allTakes(), 0);
        }
        dirtyLens();
    }

    /** Promise 21: with a lens that is dirty before. */
    private static void dirtyLens() {
        BeamCuts x = row(4);
        for (int i = 3; i >= 0; i--) {
            x.cut(i);
        }
        x.tell(0, 10, 3, 2);
        x.tell(15, 0, 2, 2);
        due("21: 15 and 12 by 10 and 18", x.ordered(0), 5);
        due("22: with the dirt", x.allTakes(), 15 + 12 + 15 + 10 + 18);
        x.clean();
        due("21: 10 and 12 by 15 and 8", x.ordered(0), 4);
        due("22: without it", x.allTakes(), 10 + 12 + 15 + 10 + 8);
    }

    /** Promise 21: "for heat alone, the beam waits for the fewest ticks behind which there is one." */
    private static void waits() {
        // Behind the cut the square has a heat of 12; the shapes 1 and 2 begin in it, 4 and 6 fields away.
        BeamCuts x = sheet(new int[][] {{0, 0, 4, 4}, {0, 4, 2, 2}, {0, 6, 2, 2}});
        x.cut(0);
        x.set(2, 0);
        due("21: 6 ticks of waiting by 8", x.ordered(0), 2);
        due("21: then the other one", x.ordered(1), 1);
        due("21: then none", x.ordered(2), NONE);
        due("22: with the waiting", x.allTakes(), 6 + 6 + 8 + 2 + 2 + 8);
        x.set(1, 0);
        due("21: no time serves", x.ordered(0), NONE);
        due("22: both would be left whole", x.allTakes(), NONE);
        x.set(2, 12);
        due("21: as hot as the limit", x.ordered(0), 1);
        due("21: then hotter", x.ordered(1), NONE);
        due("22: one would be left whole", x.allTakes(), NONE);
        x.set(2, 16);
        due("21: as hot as the limit again", x.ordered(1), 2);
        due("22: none would be left", x.allTakes(), 4 + 8 + 2 + 8);

        // Both can be cut behind 8 ticks of waiting, 4 fields away.
        x = sheet(new int[][] {{0, 0, 4, 4}, {4, 0, 2, 2}, {0, 4, 2, 2}});
        x.cut(0);
        x.set(2, 0);
        due("21: of two behind the same waiting the lowest", x.ordered(0), 1);
        x = sheet(new int[][] {{0, 0, 4, 4}, {4, 0, 3, 2}, {0, 4, 2, 2}});
        x.cut(0);
        x.set(2, 0);
        due("21: of two behind the same waiting the quickest", x.ordered(0), 2);
        due("22: it, then the other one", x.allTakes(), 8 + 4 + 8 + 8 + 12);
        x.set(1, 20);
        due("22: fading on the way", x.allTakes(), 4 + 8 + 8 + 12);
        x = with(sheet(new int[][] {{2, 2, 4, 4}, {1, 1, 6, 6}}), 2, 0, 1, 3);
        x.setLead(0, 2);
        // 3 + 3 more columns and rows to the lead; 12 fade in 4 ticks, all of them on the way.
        due("22: fading on the way to the outer one", x.allTakes(), 4 + 6 + 24 + 8 + 40);
        x.setLead(1, 2);
        due("22: 2 ticks of waiting and 2 of going", x.allTakes(), 4 + 6 + 24 + 2 + 2 + 40);
        x.set(1, 5);
        due("22: 1 tick of waiting and 2 of going", x.allTakes(), 4 + 6 + 24 + 1 + 2 + 40);
        x.set(1, 6);
        due("22: 2 ticks of going alone", x.allTakes(), 4 + 6 + 24 + 2 + 40);
    }

    /** Promise 21: it waits "for heat alone": what holds whole ones waits for them to be cut. */
    private static void waitsForHeatAlone() {
        BeamCuts x = with(sheet(new int[][] {{0, 0, 8, 8}, {1, 1, 5, 5}, {2, 2, 2, 2}}), 2, 0);
        due("21: the innermost first", x.ordered(0), 2);
        due("21: then the one around it", x.ordered(1), 1);
        due("21: then the outermost", x.ordered(2), 0);
        // 4 + 8; heat 4, way 2, waiting 2; 32; heat 16, way 2, waiting 14; 56.
        due("22: with the waiting", x.allTakes(), 12 + 2 + 2 + 32 + 14 + 2 + 56);
        x.set(3, 0);
        due("21: the innermost takes the fewest ticks", x.ordered(0), 2);
        due("21: the outermost can be cut on its way of 4", x.ordered(1), 0);
        due("21: the lost one has no rank", x.ordered(2), NONE);
        due("22: it is not left whole", x.allTakes(), 12 + 4 + 56);
        due("21: nothing is changed", x.count(8) + x.count(2) + x.count(3), 0);
    }

    /** Promise 22: 0 if nothing is whole; "NONE if some shape would be left whole". */
    private static void allTaken() {
        due("22: without shapes", new BeamCuts().allTakes(), 0);
        BeamCuts x = row(1);
        due("22: one", x.allTakes(), 8);
        x.cut(0);
        due("22: none is left", x.allTakes(), 0);
        x.set(2, 0);
        x.set(1, 0);
        due("22: none is left, and it is hot", x.allTakes(), 0);
        x.tell(4, 0, 2, 2);
        due("22: one in a square that stays hot", x.allTakes(), NONE);
        x.tell(10, 0, 2, 2);
        due("22: another one could be cut", x.ordered(0), 2);
        due("22: but one would be left", x.allTakes(), NONE);
        x.set(1, 1);
        due("22: none, when it fades", x.allTakes() > 0 ? 1 : 0, 1);
        x = with(sheet(new int[][] {{0, 0, 4, 4}, {1, 1, 2, 2}}), 3, 0);
        x.cut(0);
        due("22: lost ones are not left whole", x.allTakes(), 0);
        x.pause(9);
        x.tell(0, 4, 2, 2);
        due("22: the ticks so far are no part of it", x.allTakes(), 4 + 8);
    }

    // ---- promise 23

    /** Promise 23: 0 to 18, BAD_VALUE for others; "the lowest square that has it". */
    private static void counts() {
        BeamCuts x = new BeamCuts();
        for (int what : new int[] {LEAST, -19, -2, -1, 19, 20, 255, 256, GREATEST}) {
            due("23: count(" + what + ")", x.count(what), BAD_VALUE);
        }
        for (int first = 0; first < 12; first++) {
            // The shape 1 makes the last square as hot as one before it.
            int column = 8 * (first % 4) + 2;
            int row = 8 * (first / 4) + 2;
            x = with(sheet(new int[][] {{column, row, 2, 2}, {26, 20, 2, 2}}), 1, 0);
            due("23: the lowest square of a cold sheet", x.count(11), 0);
            x.cut(0);
            due("23: the only hot square", x.count(11), first);
            x.cut(1);
            due("23: the lowest of two", x.count(11), first);
            due("23: their heat", x.count(10), first == 11 ? 8 : 4);
            due("23: all heat", x.count(12), 8);
            due("23: those that tilted", x.count(4), 2);
        }
        x = with(sheet(new int[][] {{2, 2, 2, 2}, {26, 18, 3, 2}}), 1, 0);
        x.cut(0);
        x.cut(1);
        due("23: a higher square that is hotter", x.count(11), 11);
        x.set(1, 20);
        x.pause(1);
        due("23: when all is cold", x.count(11) + x.count(10) + x.count(12), 0);
    }

    /** Promise 23: whole, cut and lost ones together are all shapes, and all is 12 at most. */
    private static void accounts() {
        int[][] shapes = new int[12][];
        for (int i = 0; i < 12; i++) {
            shapes[i] = new int[] {i, i, 32 - 2 * i, 24 - 2 * i};
        }
        BeamCuts x = with(sheet(shapes), 3, 0);
        int[] cut = {11, 9, 3, 0};
        int[] lost = {0, 1, 5, 2};
        int lostSoFar = 0;
        for (int i = 0; i < cut.length; i++) {
            due("23: cut(" + cut[i] + ")", x.cut(cut[i]), lost[i]);
            lostSoFar += lost[i];
            due("23: shapes", x.count(0), 12);
            due("23: whole ones", x.count(1), 12 - (i + 1) - lostSoFar);
            due("23: cut ones", x.count(2), i + 1);
            due("23: lost ones", x.count(3), lostSoFar);
        }
        due("23: none is whole", x.count(1), 0);
    }

    public static void main(String[] args) {
        lastCall();
        newObject();
        toldShape();
        toldAnew();
        tellByCutOnes();
        tellFull();
        leads();
        settings();
        lostByCut();
        refusedCuts();
        pauses();
        cleanings();
        facts();
        heats();
        mostHeat();
        reasons();
        takings();
        coolings();
        coolingsThatAreNone();
        hottestOfTheEdge();
        bestOnes();
        ranks();
        asBestTells();
        waits();
        waitsForHeatAlone();
        allTaken();
        counts();
        accounts();
        Due.end();
    }
}
