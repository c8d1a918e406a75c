import java.util.Arrays;

/** Each sentence of "Terms" that names a boundary case has a test of its own here, in the document's order. */
public final class TermsTest {
    private static final int UNKNOWN = -1;
    private static final int BAD_VALUE = -2;
    private static final int FULL = -3;
    private static final int NOT_POSSIBLE = -4;
    private static final int NONE = -5;
    private static final int LEAST = Integer.MIN_VALUE;
    private static final int GREATEST = Integer.MAX_VALUE;

    private TermsTest() {
    }

    private static void due(String call, long got, long want) {
        Due.due("terms: " + call, got, want);
    }

    private static BeamCuts sheet(int[]... shapes) {
        BeamCuts x = new BeamCuts();
        for (int i = 0; i < shapes.length; i++) {
            due("tell" + Arrays.toString(shapes[i]), x.tell(shapes[i][0], shapes[i][1], shapes[i][2], shapes[i][3]), i);
        }
        return x;
    }

    /** Shapes of 2 by 2 fields side by side in the upper rows. */
    private static BeamCuts row(int shapes) {
        int[][] all = new int[shapes][];
        for (int i = 0; i < shapes; i++) {
            all[i] = new int[] {2 * i, 0, 2, 2};
        }
        return sheet(all);
    }

    private static BeamCuts with(BeamCuts x, int... settings) {
        for (int i = 0; i < settings.length; i += 2) {
            x.set(settings[i], settings[i + 1]);
        }
        return x;
    }

    // ---- the sheet and shapes

    /** "The sheet has 32 columns and 24 rows of fields", and a shape is "all of it on the sheet". */
    private static void endsOfTheSheet() {
        for (int width = 2; width <= 32; width++) {
            BeamCuts x = new BeamCuts();
            due("width " + width + ", one column too far", x.tell(33 - width, 5, width, 3), BAD_VALUE);
            due("width " + width + ", to the last column", x.tell(32 - width, 5, width, 3), 0);
            due("its columns", x.shape(0, 0) + x.shape(0, 2), 32);
        }
        for (int height = 2; height <= 24; height++) {
            BeamCuts x = new BeamCuts();
            due("height " + height + ", one row too far", x.tell(5, 25 - height, 3, height), BAD_VALUE);
            due("height " + height + ", to the last row", x.tell(5, 24 - height, 3, height), 0);
            due("its rows", x.shape(0, 1) + x.shape(0, 3), 24);
        }
        BeamCuts x = sheet(new int[][] {{0, 0, 2, 2}, {30, 0, 2, 2}, {0, 22, 2, 2}, {30, 22, 2, 2}});
        for (int[] off : new int[][] {{-1, 9}, {32, 9}, {9, -1}, {9, 24}, {LEAST, 9}, {GREATEST, 9}, {9, LEAST},
                {9, GREATEST}}) {
            due("off the sheet " + Arrays.toString(off), x.tell(off[0], off[1], 2, 2), BAD_VALUE);
        }
    }

    /** "At most 12 shapes are told ever, numbered from 0": those that are cut and lost are told, too. */
    private static void twelveShapes() {
        int[][] shapes = new int[12][];
        for (int i = 0; i < 12; i++) {
            shapes[i] = new int[] {2 * i, 0, 2, 2};
        }
        shapes[0] = new int[] {0, 4, 8, 8};
        shapes[1] = new int[] {2, 6, 3, 3};
        BeamCuts x = with(sheet(shapes), 3, 0);
        due("none has the number 12", x.shape(12, 0), UNKNOWN);
        due("the last has the number 11", x.shape(11, 0), 22);
        due("the thirteenth", x.tell(26, 4, 2, 2), FULL);
        x.keep();
        due("one is lost", x.cut(0), 1);
        due("another one is cut", x.cut(2), 0);
        due("the thirteenth behind cuts", x.tell(26, 4, 2, 2), FULL);
        due("twelve are restored", x.restore(), 12);
        due("the thirteenth behind restore()", x.tell(26, 4, 2, 2), FULL);
        due("shapes", x.count(0), 12);
    }

    /** "its width (2 to 32) and its height (2 to 24)". */
    private static void sizes() {
        for (int bad : new int[] {LEAST, -2, -1, 0, 1, 33, 34, GREATEST - 1, GREATEST}) {
            BeamCuts x = new BeamCuts();
            due("width " + bad, x.tell(0, 0, bad, 4), BAD_VALUE);
            due("height " + bad, x.tell(0, 0, 4, bad), BAD_VALUE);
            due("width and height " + bad, x.tell(1, 1, bad, bad), BAD_VALUE);
        }
        due("height 25", new BeamCuts().tell(0, 0, 4, 25), BAD_VALUE);
        for (int[] good : new int[][] {{2, 2}, {32, 2}, {2, 24}, {32, 24}}) {
            BeamCuts x = new BeamCuts();
            due("size " + Arrays.toString(good), x.tell(0, 0, good[0], good[1]), 0);
            due("its width", x.shape(0, 2), good[0]);
            due("its height", x.shape(0, 3), good[1]);
        }
    }

    private static boolean hasField(int[] shape, int column, int row) {
        return column >= shape[0] && column <= shape[0] + shape[2] - 1
            && row >= shape[1] && row <= shape[1] + shape[3] - 1;
    }

    private static boolean hasAtEdge(int[] shape, int column, int row) {
        return hasField(shape, column, row) && (column == shape[0] || column == shape[0] + shape[2] - 1
            || row == shape[1] || row == shape[1] + shape[3] - 1);
    }

    private static boolean isInside(int[] shape, int[] outer) {
        for (int column = 0; column < 32; column++) {
            for (int row = 0; row < 24; row++) {
                if (hasField(shape, column, row)
                        && (!hasField(outer, column, row) || hasAtEdge(outer, column, row))) {
                    return false;
                }
            }
        }
        return true;
    }

    private static boolean haveCommonFields(int[] one, int[] other) {
        for (int column = 0; column < 32; column++) {
            for (int row = 0; row < 24; row++) {
                if (hasField(one, column, row) && hasField(other, column, row)) {
                    return true;
                }
            }
        }
        return false;
    }

    /**
     * "Two shapes have no field in common, or one of them lies inside the other one: all of its fields are fields
     * of the other one, and none is at the edge of that": a shape of 5 by 4 with all that lie about it.
     */
    private static void allAboutAShape() {
        int[] first = {10, 10, 5, 4};
        for (int width = 2; width <= 8; width++) {
            for (int height = 2; height <= 7; height++) {
                for (int column = 7; column <= 16; column++) {
                    for (int row = 7; row <= 15; row++) {
                        about(first, new int[] {column, row, width, height});
                    }
                }
            }
        }
    }

    private static void about(int[] first, int[] second) {
        BeamCuts x = new BeamCuts();
        x.tell(first[0], first[1], first[2], first[3]);
        int got = x.tell(second[0], second[1], second[2], second[3]);
        String call = "tell" + Arrays.toString(second) + " about " + Arrays.toString(first);
        boolean lies = isInside(second, first);
        boolean holds = isInside(first, second);
        if (haveCommonFields(first, second) && !lies && !holds) {
            due(call, got, NOT_POSSIBLE);
            return;
        }
        due(call, got, 1);
        due(call + ": the outer shape of the first", x.shape(0, 6), holds ? 1 : NONE);
        due(call + ": the outer shape of the second", x.shape(1, 6), lies ? 0 : NONE);
        due(call + ": inside the first", x.shape(0, 7), lies ? 2 : 0);
        due(call + ": inside the second", x.shape(1, 7), holds ? 1 : 0);
    }

    /** "The edge of a shape are its fields in its first and last columns and rows": what is thin holds nothing. */
    private static void thinShapes() {
        for (int[] thin : new int[][] {{4, 4, 2, 20}, {4, 4, 3, 20}, {4, 4, 20, 2}, {4, 4, 20, 3}, {4, 4, 3, 3}}) {
            BeamCuts x = sheet(thin);
            for (int column = 3; column <= 5; column++) {
                for (int row = 3; row <= 5; row++) {
                    due("in a thin one", x.tell(column, row, 2, 2), NOT_POSSIBLE);
                }
            }
        }
        BeamCuts x = sheet(new int[][] {{4, 4, 4, 4}, {5, 5, 2, 2}});
        due("the least one that holds one", x.shape(0, 7), 2);
        int[][] edges = {{2, 2, 4}, {3, 2, 6}, {2, 3, 6}, {3, 3, 8}, {4, 4, 12}, {32, 2, 64}, {2, 24, 48}, {32, 3, 66},
            {3, 24, 50}, {32, 24, 108}};
        for (int[] e : edges) {
            due("the edge of " + Arrays.toString(e), sheet(new int[] {0, 0, e[0], e[1]}).shape(0, 8), e[2]);
        }
    }

    /**
     * "What lies inside a shape that is inside another one, lies inside that, too. The outer shape of a shape is
     * the least one inside which it lies": as many inside one another as the sheet holds, in several orders.
     */
    private static void deepestNest() {
        for (int step : new int[] {1, 5, 7, 11}) {
            int[][] shapes = new int[12][];
            int[] numberAt = new int[12];
            for (int i = 0; i < 12; i++) {
                int depth = i * step % 12;
                numberAt[depth] = i;
                shapes[i] = new int[] {depth, depth, 32 - 2 * depth, 24 - 2 * depth};
            }
            BeamCuts x = sheet(shapes);
            int inside = 0;
            for (int depth = 11; depth >= 0; depth--) {
                int number = numberAt[depth];
                due("the outer shape at the depth " + depth, x.shape(number, 6),
                    depth == 0 ? NONE : numberAt[depth - 1]);
                due("what is inside at the depth " + depth, x.shape(number, 7), inside);
                due("the reason at the depth " + depth, x.reason(number), depth == 11 ? 0 : 3);
                inside |= 1 << number;
            }
            due("all are told", inside, 4095);
            x.set(3, 0);
            due("eleven are lost", x.cut(numberAt[0]), 11);
            due("none is left", x.count(1), 0);
        }
    }

    // ---- the beam

    /** "The beam is at a field, at first in the column 0 and the row 0." */
    private static void beamAtFirst() {
        BeamCuts x = sheet(new int[] {0, 0, 2, 2});
        due("the column at first", x.count(6), 0);
        due("the row at first", x.count(7), 0);
        due("no way to go", x.takes(0), 8);
    }

    /**
     * "To cut a shape it goes to its lead, the upper left corner unless another one is set (0 upper left, 1 upper
     * right, 2 lower right, 3 lower left), which takes as many ticks as columns and rows are between, together ...
     * then it is at the lead."
     */
    private static void waysOfTheBeam() {
        int[][] shapes = {{0, 0, 3, 2}, {29, 0, 3, 2}, {29, 22, 3, 2}, {0, 22, 3, 2}};
        for (int shape = 0; shape < 4; shape++) {
            for (int lead = 0; lead < 4; lead++) {
                BeamCuts x = sheet(new int[][] {{15, 11, 2, 2}, shapes[shape]});
                x.cut(0);
                due("ticks at the middle", x.count(8), 26 + 8);
                x.setLead(1, lead);
                int column = shapes[shape][0] + (lead == 1 || lead == 2 ? 2 : 0);
                int row = shapes[shape][1] + (lead == 2 || lead == 3 ? 1 : 0);
                int way = Math.abs(column - 15) + Math.abs(row - 11);
                String to = "to the shape " + shape + " with the lead " + lead + ": ";
                due(to + "takes", x.takes(1), way + 12);
                x.cut(1);
                due(to + "ticks", x.count(8), 34 + way + 12);
                due(to + "column", x.count(6), column);
                due(to + "row", x.count(7), row);
            }
        }
        BeamCuts x = sheet(new int[][] {{30, 22, 2, 2}, {0, 0, 2, 2}});
        x.setLead(0, 2);
        due("the longest way", x.takes(0), 31 + 23 + 8);
        x.cut(0);
        due("the longest way back", x.takes(1), 31 + 23 + 8);
        x = sheet(new int[][] {{0, 0, 12, 12}, {4, 4, 3, 3}});
        x.setLead(1, 3);
        x.cut(1);
        x.setLead(0, 3);
        due("behind a cut the beam is at the lead", x.takes(0), 4 + 5 + 88);
    }

    /** "it burns the edge, which takes twice as many ticks as the edge has fields". */
    private static void burning() {
        for (int[] size : new int[][] {{2, 2, 4}, {32, 2, 64}, {2, 24, 48}, {3, 3, 8}, {32, 24, 108}}) {
            BeamCuts x = sheet(new int[] {0, 0, size[0], size[1]});
            due("takes " + Arrays.toString(size), x.takes(0), 2 * size[2]);
            x.cut(0);
            due("ticks of " + Arrays.toString(size), x.count(8), 2 * size[2]);
            due("ticks of burning " + Arrays.toString(size), x.count(9), 2 * size[2]);
        }
    }

    /**
     * "The lens has some dirt, 0 at first. Each cut makes it greater by 1, behind its burning. With each full 4 of
     * dirt the burning takes an edge's number of fields in ticks more."
     */
    private static void dirt() {
        BeamCuts x = row(12);
        due("at first", x.count(5), 0);
        int burning = 0;
        for (int i = 0; i < 12; i++) {
            int due = 4 * (i < 4 ? 2 : i < 8 ? 3 : 4);
            due("takes with the dirt " + i, x.takes(i), due + (i == 0 ? 0 : 2));
            x.cut(i);
            burning += due;
            due("burning up to the dirt " + i, x.count(9), burning);
            due("dirt behind the cut " + i, x.count(5), i + 1);
        }
        due("all of it is cleaned", x.clean(), 12);
        x = row(9);
        for (int i = 0; i < 3; i++) {
            x.cut(i);
        }
        due("cleaned before it is 4", x.clean(), 3);
        for (int i = 3; i < 7; i++) {
            due("takes behind the cleaning, " + i, x.takes(i), 8 + 2);
            x.cut(i);
        }
        due("it is 4 again", x.takes(7), 12 + 2);
        due("a refused cut makes no dirt", x.cut(0) + x.count(5), -11 + 4);
    }

    /** "The lens is cleaned in the setting 0 of ticks (1 to 99; 20 at first); the dirt is 0 then." */
    private static void cleaning() {
        for (int ticks : new int[] {1, 2, 20, 98, 99}) {
            BeamCuts x = with(row(2), 0, ticks);
            x.cut(0);
            due("the dirt before", x.clean(), 1);
            due("cleaning in " + ticks, x.count(8), 8 + ticks);
            due("the dirt then", x.count(5), 0);
        }
        BeamCuts x = new BeamCuts();
        due("at first", x.count(13), 20);
        due("set(0, 0)", x.set(0, 0), BAD_VALUE);
        due("set(0, 100)", x.set(0, 100), BAD_VALUE);
        due("set(0, 1)", x.set(0, 1), 20);
        due("set(0, 99)", x.set(0, 99), 1);
    }

    // ---- heat

    /**
     * "The sheet is 4 by 3 squares, each of 8 columns and 8 rows; the square of a field is its column divided by 8,
     * and 4 times its row divided by 8, both rounded down, together": a least shape at each place. "When an edge is
     * burned, the heat of each square becomes greater by the fields of the edge that lie in it."
     */
    private static void squares() {
        for (int column = 0; column <= 30; column++) {
            for (int row = 0; row <= 22; row++) {
                BeamCuts x = sheet(new int[] {column, row, 2, 2});
                x.cut(0);
                int[] heats = new int[12];
                for (int field = 0; field < 4; field++) {
                    heats[(column + field % 2) / 8 + 4 * ((row + field / 2) / 8)]++;
                }
                for (int square = 0; square < 12; square++) {
                    due("2 by 2 at " + column + ", " + row + ": heat(" + square + ")", x.heat(square), heats[square]);
                }
            }
        }
        BeamCuts x = sheet(new int[] {7, 7, 18, 10});
        x.cut(0);
        int[] heats = {1, 8, 8, 1, 8, 0, 0, 8, 1, 8, 8, 1};
        for (int square = 0; square < 12; square++) {
            due("a shape over all squares: heat(" + square + ")", x.heat(square), heats[square]);
        }
    }

    /**
     * "In each tick of going, cleaning and waiting the heat of each square is less by the setting 1 (0 to 20; 1 at
     * first), but at least 0; burning does not cool. (A cut goes first, then burns.)"
     */
    private static void cooling() {
        for (int by : new int[] {0, 1, 2, 3, 19, 20}) {
            BeamCuts x = with(sheet(new int[][] {{0, 0, 8, 8}, {8, 0, 2, 2}, {10, 0, 2, 2}}), 1, by);
            x.cut(0);
            due("going first, by " + by, x.heat(0), 28);
            x.cut(1);
            int left = Math.max(28 - 8 * by, 0);
            due("8 ticks of going by " + by, x.heat(0), left);
            due("burning does not cool, by " + by, x.heat(1), 4);
            x.pause(1);
            left = Math.max(left - by, 0);
            due("a tick of waiting by " + by, x.heat(0), left);
            due("a tick of waiting by " + by + ", less heat", x.heat(1), Math.max(4 - by, 0));
            x.set(0, 2);
            x.clean();
            left = Math.max(left - 2 * by, 0);
            due("two ticks of cleaning by " + by, x.heat(0), left);
            due("two ticks of cleaning by " + by + ", less heat", x.heat(1), Math.max(4 - 3 * by, 0));
        }
        BeamCuts x = with(sheet(new int[][] {{0, 0, 2, 2}, {4, 0, 2, 2}, {7, 0, 2, 2}}), 1, 20);
        due("at first", new BeamCuts().count(14), 1);
        x.cut(0);
        due("much more than there is", x.pause(999), 0);
        due("no heat is left", x.count(12), 0);
        x.cut(1);
        due("it was not less than none", x.heat(0), 4);
        x = sheet(new int[][] {{0, 0, 2, 2}, {3, 0, 2, 2}});
        x.cut(0);
        x.cut(1);
        due("first 3 ticks of going, then the burning", x.heat(0), 1 + 4);
        due("set(1, -1)", x.set(1, -1), BAD_VALUE);
        due("set(1, 21)", x.set(1, 21), BAD_VALUE);
    }

    // ---- cutting

    /** "A shape cannot be cut for the first of these reasons that holds". */
    private static void reasonsInOrder() {
        BeamCuts x = with(sheet(new int[][] {{0, 0, 8, 8}, {2, 2, 4, 4}, {16, 0, 8, 8}, {17, 1, 2, 2}, {20, 4, 2, 2}}),
            1, 0, 2, 3);
        x.cut(3);
        due("3 comes before 4", x.reason(2), 3);
        due("3 is told in place of 4", x.cut(2), -13);
        due("4 without setting 3", x.set(3, 0) + x.reason(2), 1 + 4);
        due("4 is told", x.cut(2), -14);
        due("1 comes before 4", x.reason(3), 1);
        due("1 is told", x.cut(3), -11);
        x.cut(0);
        due("2 comes before 4", x.reason(1), 2);
        due("2 is told", x.cut(1), -12);
        due("1 of the outer one", x.cut(0), -11);
    }

    /** "3 a shape inside it is neither cut nor lost (if the setting 3 is 1; 0 or 1, 1 at first)". */
    private static void innerOnes() {
        BeamCuts x = sheet(new int[][] {{0, 0, 20, 20}, {1, 1, 12, 12}, {2, 2, 3, 3}});
        due("1 at first", x.count(16), 1);
        due("set(3, -1)", x.set(3, -1), BAD_VALUE);
        due("set(3, 2)", x.set(3, 2), BAD_VALUE);
        due("both are inside", x.reason(0), 3);
        x.cut(2);
        due("one is inside and whole, one is cut", x.reason(0), 3);
        due("what is inside is cut", x.reason(1), 0);
        x.cut(1);
        due("both are cut", x.reason(0), 0);
        x = with(sheet(new int[][] {{0, 0, 20, 20}, {1, 1, 12, 12}, {2, 2, 3, 3}}), 3, 0);
        due("with the setting 0", x.reason(0), 0);
        x.cut(1);
        x.set(3, 1);
        due("one is cut, one is lost", x.reason(0), 0);
        x.tell(14, 14, 2, 2);
        due("a whole one beside those", x.reason(0), 3);
        x.tell(22, 0, 2, 2);
        due("one beside it is not inside", x.reason(4), 0);
    }

    /** "4 a square in which its edge has fields has a heat above the setting 2 (0 to 999; 150 at first)". */
    private static void heatLimit() {
        BeamCuts x = with(row(2), 1, 0);
        due("150 at first", x.count(15), 150);
        due("set(2, -1)", x.set(2, -1), BAD_VALUE);
        due("set(2, 1000)", x.set(2, 1000), BAD_VALUE);
        x.set(2, 0);
        due("no heat is not above 0", x.cut(0), 0);
        due("a heat of 4 is above 0", x.reason(1), 4);
        for (int limit = 1; limit <= 3; limit++) {
            x.set(2, limit);
            due("a heat of 4 is above " + limit, x.reason(1), 4);
        }
        x.set(2, 4);
        due("a heat of 4 is not above 4", x.reason(1), 0);
        x.set(2, 999);
        due("a heat of 4 is not above 999", x.reason(1), 0);
        // One hot square, and edges that have or have not a field in it; fields inside an edge are none of it.
        int[] hot = {10, 10, 2, 2};
        int[][] edges = {{9, 9, 4, 4}, {0, 0, 9, 9}, {0, 0, 8, 9}, {0, 0, 9, 8}, {15, 15, 3, 3}, {16, 15, 3, 3},
            {15, 16, 3, 3}, {15, 7, 2, 2}, {7, 15, 2, 2}, {7, 7, 10, 10}, {7, 7, 9, 10}, {7, 7, 10, 9}, {6, 6, 10, 12},
            {8, 6, 10, 12}, {2, 12, 3, 3}};
        int[] reasons = {4, 4, 0, 0, 4, 0, 0, 4, 4, 0, 4, 4, 4, 4, 0};
        for (int i = 0; i < edges.length; i++) {
            x = with(sheet(hot, edges[i]), 1, 0, 2, 3);
            x.cut(0);
            due("a hot square and the edge " + Arrays.toString(edges[i]), x.reason(1), reasons[i]);
        }
    }

    /** The heat counts "behind the beam's going to it". */
    private static void heatBehindGoing() {
        BeamCuts x = with(sheet(new int[][] {{0, 0, 8, 7}, {4, 8, 2, 2}, {4, 4, 2, 2}}), 3, 0);
        x.cut(2);
        // The beam is at 4, 4: the way to the shape 0 has 8 fields, on which the heat of 4 fades.
        x.set(2, 0);
        due("a way of 8 for a heat of 4", x.reason(0), 0);
        x.setLead(0, 2);
        due("a way of 5 for a heat of 4", x.reason(0), 0);
        x = sheet(new int[][] {{0, 0, 4, 4}, {4, 0, 4, 4}, {4, 4, 2, 2}});
        x.cut(0);
        x.set(2, 8);
        due("12 less 4 is not above 8", x.reason(1), 0);
        x.set(2, 7);
        due("12 less 4 is above 7", x.reason(1), 4);
        due("it is refused", x.cut(1), -14);
        x.set(1, 2);
        due("12 less 8 is not above 7", x.reason(1), 0);
        x.set(2, 4);
        due("12 less 8 is not above 4", x.reason(1), 0);
        x.set(2, 3);
        due("12 less 8 is above 3", x.reason(1), 4);
        x.set(1, 20);
        due("12 less 80 is not above 3", x.reason(1), 0);
        x.set(2, 0);
        due("nor above 0", x.cut(1), 0);
        due("the burning alone is left", x.heat(0), 12);
    }

    /** "When a shape is cut, it falls out of the sheet, and all shapes inside it that are not cut are lost." */
    private static void lostOnes() {
        BeamCuts x = with(sheet(new int[][] {{1, 1, 20, 20}, {2, 2, 12, 12}, {3, 3, 5, 5}, {15, 15, 3, 3},
            {22, 1, 3, 3}, {0, 0, 30, 23}}), 3, 0);
        due("a cut without one inside", x.cut(2), 0);
        due("a cut one inside is not lost", x.cut(1), 0);
        due("it stays cut", x.shape(2, 5), 1);
        due("a whole one inside is lost", x.cut(0), 1);
        int[] are = {1, 1, 1, 2, 0, 0};
        for (int i = 0; i < are.length; i++) {
            due("how the shape " + i + " is", x.shape(i, 5), are[i]);
        }
        due("one around it is not lost; one is lost by that", x.cut(5), 1);
        due("lost ones", x.count(3), 2);
        due("a lost one was not cut", x.shape(3, 10), NONE);
        due("a lost one has not tilted", x.shape(3, 9), 0);
    }

    /**
     * "It tilts if its lead is a corner that lies in a square with the greatest heat of all squares, behind the
     * burning": in each square, with several as hot, and with one that is hotter by one.
     */
    private static void tilting() {
        for (int square = 0; square < 12; square++) {
            int column = 8 * (square % 4);
            int row = 8 * (square / 4);
            BeamCuts x = sheet(new int[] {column + 2, row + 2, 4, 4});
            x.cut(0);
            due("alone in the square " + square, x.shape(0, 9), 1);
        }
        for (int size = 2; size <= 4; size++) {
            BeamCuts x = with(sheet(new int[][] {{16, 8, 3, 2}, {0, 0, size, 2}}), 1, 0);
            x.cut(0);
            x.cut(1);
            due("a heat of " + 2 * size + " by a heat of 6", x.shape(1, 9), size < 3 ? 0 : 1);
            due("the first one stays as it was", x.shape(0, 9), 1);
            due("those that tilted", x.count(4), size < 3 ? 1 : 2);
        }
        for (int lead = 0; lead < 4; lead++) {
            // Fields in the squares 0, 1, 4, 5: 5, 3, 3, 1 of twelve; the leads lie in 0, 1, 5, 4.
            BeamCuts x = sheet(new int[] {5, 5, 4, 4});
            x.setLead(0, lead);
            x.cut(0);
            due("with the lead " + lead, x.shape(0, 9), lead == 0 ? 1 : 0);
        }
        BeamCuts x = sheet(new int[][] {{0, 0, 8, 8}, {30, 22, 2, 2}});
        x.cut(0);
        x.setLead(1, 2);
        x.cut(1);
        due("the heat of 28 has faded on the way of 54", x.shape(1, 9), 1);
    }

    public static void main(String[] args) {
        endsOfTheSheet();
        twelveShapes();
        sizes();
        allAboutAShape();
        thinShapes();
        deepestNest();
        beamAtFirst();
        waysOfTheBeam();
        burning();
        dirt();
        cleaning();
        squares();
        cooling();
        reasonsInOrder();
        innerOnes();
        heatLimit();
        heatBehindGoing();
        lostOnes();
        tilting();
        Due.end();
    }
}
