import java.util.Arrays;

/** For each promise its ordinary inputs, the edges that the document names, and wrong inputs. */
public final class PromiseTest {
    private static final int UNKNOWN = -1;
    private static final int BAD_VALUE = -2;
    private static final int FULL = -3;
    private static final int NOT_POSSIBLE = -4;
    private static final int NONE = -5;
    private static final int LEAST = Integer.MIN_VALUE;
    private static final int GREATEST = Integer.MAX_VALUE;

    private PromiseTest() {
    }

    private static void due(String call, long got, long want) {
        Due.due(call, got, want);
    }

    /** A sheet whose heat neither fades nor hinders. */
    private static BeamCuts unfading() {
        BeamCuts x = new BeamCuts();
        x.set(1, 0);
        return x;
    }

    /** Shapes of 2 by 2 fields side by side in the upper rows: shape 0 at the column 0, shape 1 at 2, and so on. */
    private static BeamCuts row(int shapes) {
        BeamCuts x = new BeamCuts();
        for (int i = 0; i < shapes; i++) {
            due("tell shape " + i + " of a row", x.tell(2 * i, 0, 2, 2), i);
        }
        return x;
    }

    private static void promise1() {
        due("UNKNOWN", BeamCuts.UNKNOWN, -1);
        due("BAD_VALUE", BeamCuts.BAD_VALUE, -2);
        due("FULL", BeamCuts.FULL, -3);
        due("NOT_POSSIBLE", BeamCuts.NOT_POSSIBLE, -4);
        due("NONE", BeamCuts.NONE, -5);
        due("REFUSED", BeamCuts.REFUSED, -10);
        BeamCuts x = new BeamCuts();
        int[] counts = {0, 0, 0, 0, 0, 0, 0, 0, 0, 0, 0, 0, 0, 20, 1, 150, 1, 0, 0};
        for (int what = 0; what < counts.length; what++) {
            due("1: count(" + what + ") of a new object", x.count(what), counts[what]);
        }
        for (int square = 0; square < 12; square++) {
            due("1: heat(" + square + ") of a new object", x.heat(square), 0);
        }
        due("1: shape(0, 0) of a new object", x.shape(0, 0), UNKNOWN);
        due("1: best() of a new object", x.best(), NONE);
        due("1: undo() of a new object", x.undo(), NONE);
        due("1: restore() of a new object", x.restore(), NONE);
        due("1: stopped(0) of a new object", x.stopped(0), NONE);
        x.tell(0, 0, 2, 2);
        x.cut(0);
        BeamCuts y = new BeamCuts();
        due("1: another object is new, too", y.count(0) + y.count(8) + y.heat(0), 0);
    }

    private static void promise2() {
        BeamCuts x = new BeamCuts();
        int[][] bad = {{-1, 0, 2, 2}, {32, 0, 2, 2}, {0, -1, 2, 2}, {0, 24, 2, 2}, {0, 0, 1, 2}, {0, 0, 33, 2},
            {0, 0, 2, 1}, {0, 0, 2, 25}, {31, 0, 2, 2}, {0, 23, 2, 2}, {1, 0, 32, 2}, {0, 1, 2, 24},
            {GREATEST, 0, 2, 2}, {0, GREATEST, 2, 2}, {1, 1, GREATEST, 2}, {1, 1, 2, GREATEST},
            {LEAST, 0, 2, 2}, {0, LEAST, 2, 2}, {0, 0, LEAST, 2}, {0, 0, 2, LEAST}, {2, 2, 0, 0}, {2, 2, -1, -1}};
        for (int[] b : bad) {
            due("2: tell" + Arrays.toString(b), x.tell(b[0], b[1], b[2], b[3]), BAD_VALUE);
        }
        due("2: what is bad is not recorded", x.count(17) + x.count(0), 0);
        due("2: tell all the sheet", x.tell(0, 0, 32, 24), 0);
        due("2: tell is an act", x.count(17), 1);
        due("2: its lead", x.shape(0, 4), 0);
        int[][] atEdge = {{0, 1, 4, 4}, {28, 1, 4, 4}, {1, 0, 4, 4}, {1, 20, 4, 4}, {0, 0, 32, 24}};
        for (int[] b : atEdge) {
            due("2: at the edge: tell" + Arrays.toString(b), x.tell(b[0], b[1], b[2], b[3]), NOT_POSSIBLE);
        }
        due("2: just inside", x.tell(1, 1, 30, 22), 1);
        due("2: bad is told before not possible", x.tell(0, 0, 1, 24), BAD_VALUE);
        due("2: not possible is not recorded", x.count(17), 2);

        x = new BeamCuts();
        due("2: tell(10, 10, 4, 4)", x.tell(10, 10, 4, 4), 0);
        int[][] crossing = {{8, 8, 3, 3}, {13, 13, 3, 3}, {11, 8, 2, 9}, {8, 11, 9, 2}, {10, 10, 4, 4},
            {10, 9, 4, 6}, {9, 10, 6, 4}, {9, 9, 5, 6}, {9, 9, 6, 5}};
        for (int[] b : crossing) {
            due("2: crossing: tell" + Arrays.toString(b), x.tell(b[0], b[1], b[2], b[3]), NOT_POSSIBLE);
        }
        due("2: left of it", x.tell(8, 10, 2, 4), 1);
        due("2: right of it", x.tell(14, 10, 2, 4), 2);
        due("2: above it", x.tell(10, 8, 4, 2), 3);
        due("2: below it", x.tell(10, 14, 4, 2), 4);
        due("2: around all", x.tell(7, 7, 10, 10), 5);
        due("2: inside the first", x.tell(11, 11, 2, 2), 6);
        due("2: at the lower right corner", x.tell(30, 22, 2, 2), 7);
        tellByCutOrLost();
        tellTwelve();
        tellAnew();
        tellRefused();
    }

    private static void tellByCutOrLost() {
        BeamCuts x = new BeamCuts();
        x.set(3, 0);
        x.tell(2, 2, 12, 12);
        x.tell(4, 4, 8, 8);
        x.cut(0);
        due("2: inside a cut and a lost one", x.tell(6, 6, 2, 2), NOT_POSSIBLE);
        due("2: inside a cut one alone", x.tell(3, 3, 9, 10), NOT_POSSIBLE);
        due("2: around a cut one", x.tell(1, 1, 14, 14), NOT_POSSIBLE);
        due("2: beside a cut one", x.tell(14, 2, 2, 2), 2);

        x = new BeamCuts();
        x.tell(4, 4, 4, 4);
        x.cut(0);
        due("2: around a cut one alone", x.tell(3, 3, 6, 6), NOT_POSSIBLE);
        due("2: inside a cut one without others", x.tell(5, 5, 2, 2), NOT_POSSIBLE);
        due("2: crossing a cut one", x.tell(3, 3, 2, 2), NOT_POSSIBLE);
    }

    private static void tellTwelve() {
        BeamCuts x = row(12);
        due("2: the thirteenth", x.tell(24, 0, 2, 2), FULL);
        due("2: not possible is told before full", x.tell(23, 0, 2, 2), NOT_POSSIBLE);
        due("2: bad is told before full", x.tell(31, 0, 2, 2), BAD_VALUE);
        due("2: full is not recorded", x.count(0), 12);
        due("2: one is taken back", x.undo(), 3);
        due("2: its row is free", x.shape(11, 0), UNKNOWN);
        due("2: another one takes its number", x.tell(24, 4, 3, 2), 11);
        due("2: its column", x.shape(11, 0), 24);
        due("2: the twelfth is kept", x.keep(), 12);
    }

    private static void tellAnew() {
        BeamCuts x = new BeamCuts();
        x.keep();
        x.tell(0, 0, 4, 4);
        x.setLead(0, 2);
        x.cut(0);
        due("2: what was told tilted", x.count(4), 1);
        x.restore();
        due("2: there are no shapes now", x.count(0) + x.count(1) + x.count(2) + x.count(3) + x.count(4), 0);
        due("2: told anew", x.tell(9, 9, 3, 3), 0);
        due("2: the lead of a shape told anew", x.shape(0, 4), 0);
        due("2: its condition", x.shape(0, 5), 0);
        due("2: it has not tilted", x.shape(0, 9), 0);
        due("2: its rank", x.shape(0, 10), NONE);
        x.restore();
        due("2: none is whole", x.count(1), 0);
        due("2: none is left whole", x.allTakes(), 0);
        x.pause(7);
        x.tell(9, 9, 3, 3);
        due("2: undo of tell alone", x.undo(), 3);
        due("2: the pause before it stays", x.count(8), 7);
    }

    /** A shape that is refused leaves nothing, wherever it was tried. */
    private static void tellRefused() {
        BeamCuts x = new BeamCuts();
        x.tell(2, 2, 12, 12);
        x.tell(4, 4, 3, 3);
        x.cut(1);
        due("2: refused beside a cut one", x.tell(6, 6, 3, 3), NOT_POSSIBLE);
        due("2: none is whole inside", x.reason(0), 0);
        due("2: one is inside", x.shape(0, 7), 2);
        due("2: refused around", x.tell(3, 3, 6, 6), NOT_POSSIBLE);
        due("2: its outer shape", x.shape(1, 6), 0);
        due("2: shapes", x.count(0), 2);
        x.tell(6, 6, 3, 3);
        x.set(3, 0);
        due("2: none is lost", x.cut(0), 0);
        due("2: all are cut", x.allTakes(), 0);
    }

    private static void promise3() {
        BeamCuts x = row(2);
        due("3: setLead(0, 2)", x.setLead(0, 2), 0);
        due("3: it is an act", x.count(17), 3);
        due("3: setLead(0, 3)", x.setLead(0, 3), 2);
        due("3: shape(0, 4)", x.shape(0, 4), 3);
        due("3: the other one's lead", x.shape(1, 4), 0);
        due("3: it is so already", x.setLead(0, 3), NONE);
        due("3: it is so at first", x.setLead(1, 0), NONE);
        due("3: NONE is not recorded", x.count(17), 4);
        due("3: undo", x.undo(), 3);
        due("3: the lead before it", x.shape(0, 4), 2);
        x.pause(6);
        due("3: behind another act", x.setLead(0, 3), 2);
        x.undo();
        due("3: the act before it stays", x.count(8), 6);
        x.setLead(0, 3);
        int[][] unknown = {{-1, 0}, {2, 0}, {12, 0}, {0, -1}, {0, 4}, {GREATEST, 1}, {LEAST, 1}, {0, LEAST},
            {0, GREATEST}};
        for (int[] u : unknown) {
            due("3: setLead" + Arrays.toString(u), x.setLead(u[0], u[1]), UNKNOWN);
        }
        x.cut(0);
        due("3: of a cut one", x.setLead(0, 1), NOT_POSSIBLE);
        due("3: of a cut one, so already", x.setLead(0, 3), NOT_POSSIBLE);
        due("3: of a cut one, no corner", x.setLead(0, 4), UNKNOWN);
        x = new BeamCuts();
        x.set(3, 0);
        x.tell(0, 0, 9, 9);
        x.tell(2, 2, 3, 3);
        x.cut(0);
        due("3: of a lost one", x.setLead(1, 1), NOT_POSSIBLE);
        due("3: of a lost one, so already", x.setLead(1, 0), NOT_POSSIBLE);
        int[][] corners = {{4, 3}, {10, 3}, {10, 8}, {4, 8}};
        for (int corner = 0; corner < 4; corner++) {
            x = new BeamCuts();
            x.tell(4, 3, 7, 6);
            x.setLead(0, corner);
            x.cut(0);
            due("3: the beam's column at the corner " + corner, x.count(6), corners[corner][0]);
            due("3: the beam's row at the corner " + corner, x.count(7), corners[corner][1]);
        }
    }

    private static void promise4() {
        int[][] ranges = {{1, 99, 20}, {0, 20, 1}, {0, 999, 150}, {0, 1, 1}};
        for (int which = 0; which < 4; which++) {
            BeamCuts x = new BeamCuts();
            String set = "4: set(" + which + ", ";
            due(set + "as at first)", x.set(which, ranges[which][2]), NONE);
            due(set + "too little)", x.set(which, ranges[which][0] - 1), BAD_VALUE);
            due(set + "too much)", x.set(which, ranges[which][1] + 1), BAD_VALUE);
            due(set + "least of all)", x.set(which, LEAST), BAD_VALUE);
            due(set + "greatest of all)", x.set(which, GREATEST), BAD_VALUE);
            due(set + "..) is not recorded", x.count(17), 0);
            due(set + "its least)", x.set(which, ranges[which][0]), ranges[which][2]);
            due(set + "..) is an act", x.count(17), 1);
            due(set + "its greatest)", x.set(which, ranges[which][1]), ranges[which][0]);
            due(set + "again)", x.set(which, ranges[which][1]), NONE);
            for (int other = 0; other < 4; other++) {
                int value = other == which ? ranges[which][1] : ranges[other][2];
                due(set + "..), then count(" + (13 + other) + ")", x.count(13 + other), value);
            }
        }
        BeamCuts x = new BeamCuts();
        due("4: set(-1, 1)", x.set(-1, 1), UNKNOWN);
        due("4: set(4, 1)", x.set(4, 1), UNKNOWN);
        due("4: unknown is told before bad", x.set(4, -1), UNKNOWN);
        due("4: set(LEAST, 1)", x.set(LEAST, 1), UNKNOWN);
        due("4: set(GREATEST, 1)", x.set(GREATEST, 1), UNKNOWN);
    }

    private static void promise5() {
        BeamCuts x = new BeamCuts();
        x.tell(2, 2, 4, 3);
        due("5: cut(0)", x.cut(0), 0);
        due("5: it is an act", x.count(17), 2);
        due("5: ticks of 4 for going and 20 for burning", x.count(8), 24);
        due("5: ticks of burning", x.count(9), 20);
        due("5: the beam's column", x.count(6), 2);
        due("5: the beam's row", x.count(7), 2);
        due("5: the dirt", x.count(5), 1);
        due("5: the heat", x.heat(0), 10);
        due("5: all heat", x.count(12), 10);
        due("5: it is cut", x.shape(0, 5), 1);
        due("5: cut(0) again", x.cut(0), -11);
        due("5: a refusal changes nothing", x.count(8) + x.count(17), 26);
        for (int shape : new int[] {-1, 1, 12, LEAST, GREATEST}) {
            due("5: cut(" + shape + ")", x.cut(shape), UNKNOWN);
        }
        cutDirty();
        cutAcrossSquares();
        cutWithInner();
        cutHot();
        cutTilting();
    }

    private static void cutDirty() {
        BeamCuts x = row(9);
        int[] ticks = {8, 18, 28, 38, 52, 66, 80, 94, 112};
        int[] burning = {8, 16, 24, 32, 44, 56, 68, 80, 96};
        for (int i = 0; i < 9; i++) {
            due("5: cut(" + i + ") of a row", x.cut(i), 0);
            due("5: ticks so far", x.count(8), ticks[i]);
            due("5: ticks of burning so far", x.count(9), burning[i]);
            due("5: dirt so far", x.count(5), i + 1);
        }
    }

    private static void cutAcrossSquares() {
        BeamCuts x = new BeamCuts();
        x.tell(6, 6, 4, 5);
        x.cut(0);
        int[] heats = {3, 3, 0, 0, 4, 4, 0, 0, 0, 0, 0, 0};
        for (int square = 0; square < 12; square++) {
            due("5: heat of the square " + square, x.heat(square), heats[square]);
        }
        x = unfading();
        x.tell(0, 0, 32, 24);
        x.cut(0);
        int[] around = {15, 8, 8, 15, 8, 0, 0, 8, 15, 8, 8, 15};
        for (int square = 0; square < 12; square++) {
            due("5: heat of the square " + square + " of all the sheet", x.heat(square), around[square]);
        }
        x = new BeamCuts();
        x.tell(24, 16, 8, 8);
        x.tell(31 - 8, 0, 2, 2);
        x.cut(0);
        due("5: burning does not cool", x.heat(11), 28);
        x.cut(1);
        due("5: going 17 fields cools", x.heat(11), 11);
        due("5: the beam's way", x.count(8), 40 + 56 + 17 + 8);
    }

    private static void cutWithInner() {
        BeamCuts x = new BeamCuts();
        x.tell(0, 0, 20, 20);
        x.tell(1, 1, 6, 6);
        x.tell(2, 2, 3, 3);
        x.tell(9, 9, 3, 3);
        x.tell(20, 0, 3, 3);
        due("5: whole ones are inside", x.cut(0), -13);
        due("5: a whole one is inside", x.cut(1), -13);
        due("5: none is inside", x.cut(2), 0);
        due("5: the one inside is cut", x.cut(1), 0);
        due("5: one is whole", x.cut(0), -13);
        x.set(3, 0);
        due("5: it falls out with a whole one", x.cut(0), 1);
        due("5: the whole one is lost", x.shape(3, 5), 2);
        due("5: the cut one stays cut", x.shape(1, 5), 1);
        due("5: the one inside it stays cut", x.shape(2, 5), 1);
        due("5: one beside it is whole", x.shape(4, 5), 0);
        due("5: the lost one", x.cut(3), -12);

        x = new BeamCuts();
        x.set(3, 0);
        x.tell(0, 0, 20, 20);
        x.tell(1, 1, 12, 12);
        x.tell(2, 2, 8, 8);
        x.tell(3, 3, 3, 3);
        due("5: two are lost by the second", x.cut(1), 2);
        due("5: no further one by the first", x.cut(0), 0);
        due("5: lost ones", x.count(3), 2);
        due("5: cut ones", x.count(2), 2);

        x = new BeamCuts();
        x.tell(3, 3, 3, 3);
        x.tell(2, 2, 8, 8);
        x.tell(0, 0, 20, 20);
        due("5: one told before is inside", x.cut(1), -13);
        due("5: the outer shape told later", x.shape(0, 6), 1);
        due("5: one told first as outer shape's", x.shape(1, 6), 2);
        due("5: inside the greatest one", x.shape(2, 7), 3);
        x.set(3, 0);
        due("5: one told before is lost", x.cut(1), 1);
        due("5: it is lost", x.shape(0, 5), 2);

        x = new BeamCuts();
        x.set(3, 0);
        x.tell(0, 0, 20, 20);
        x.tell(1, 1, 12, 12);
        x.tell(2, 2, 8, 8);
        x.cut(1);
        x.set(3, 1);
        due("5: neither lost nor cut ones inside hinder", x.cut(0), 0);
    }

    private static void cutHot() {
        BeamCuts x = row(3);
        x.set(2, 1);
        x.cut(0);
        due("5: the heat of 4 fades to 2 on the way", x.cut(1), -14);
        x.setLead(1, 1);
        due("5: it fades to 1 on a longer way", x.cut(1), 0);
        due("5: then it burns", x.heat(0), 5);

        x = unfading();
        x.tell(10, 9, 4, 4);
        x.tell(0, 0, 32, 24);
        x.set(2, 0);
        x.cut(0);
        due("5: a hot square without its edge", x.cut(1), 0);

        x = unfading();
        x.tell(16, 0, 2, 2);
        x.tell(0, 0, 16, 4);
        x.tell(4, 4, 14, 4);
        x.set(2, 3);
        x.cut(0);
        due("5: a hot square beside its edge", x.reason(1), 0);
        due("5: a hot square at the end of its edge", x.cut(2), -14);
        x.set(2, 4);
        due("5: a heat not above the limit", x.cut(2), 0);

        x = unfading();
        x.tell(0, 0, 2, 2);
        x.tell(7, 7, 4, 4);
        x.set(2, 3);
        x.cut(0);
        due("5: a hot square with one field of its edge", x.cut(1), -14);
    }

    private static void cutTilting() {
        for (int corner = 0; corner < 4; corner++) {
            BeamCuts x = new BeamCuts();
            x.tell(7, 7, 4, 4);
            x.setLead(0, corner);
            x.cut(0);
            due("5: tilting with the lead " + corner, x.shape(0, 9), corner == 2 ? 1 : 0);
        }
        BeamCuts x = new BeamCuts();
        x.tell(6, 6, 4, 4);
        x.cut(0);
        due("5: tilting with squares as hot", x.shape(0, 9), 1);
        x = unfading();
        x.tell(24, 16, 8, 8);
        x.tell(0, 0, 2, 2);
        x.cut(0);
        x.cut(1);
        due("5: tilting in the hottest square", x.shape(0, 9), 1);
        due("5: not tilting with a hotter square far away", x.shape(1, 9), 0);
        due("5: those that tilted", x.count(4), 1);
    }

    private static void promise6() {
        BeamCuts x = new BeamCuts();
        for (int ticks : new int[] {0, -1, 1000, LEAST, GREATEST}) {
            due("6: pause(" + ticks + ")", x.pause(ticks), BAD_VALUE);
        }
        due("6: bad ones are not recorded", x.count(17) + x.count(8), 0);
        x.tell(6, 0, 3, 3);
        x.cut(0);
        due("6: heat of the square 0", x.heat(0), 5);
        due("6: pause(1)", x.pause(1), 4);
        due("6: it is an act", x.count(17), 3);
        due("6: each square cools", x.heat(1), 2);
        x.set(1, 2);
        due("6: cooling by 2", x.pause(1), 2);
        due("6: not below 0", x.heat(1), 0);
        due("6: one tick more", x.pause(2), 0);
        due("6: not below 0 either", x.heat(0), 0);
        due("6: ticks so far", x.count(8), 6 + 16 + 4);
        due("6: pause(999)", x.pause(999), 0);
        due("6: ticks then", x.count(8), 26 + 999);
        due("6: not ticks of burning", x.count(9), 16);
        x = unfading();
        x.tell(0, 0, 8, 8);
        x.cut(0);
        due("6: without cooling", x.pause(999), 28);
    }

    private static void promise7() {
        BeamCuts x = row(3);
        due("7: without dirt", x.clean(), NONE);
        due("7: it changes nothing", x.count(8) + x.count(17), 3);
        x.cut(0);
        x.cut(1);
        x.cut(2);
        due("7: ticks before", x.count(8), 28);
        due("7: heat before", x.heat(0), 8);
        x.set(0, 3);
        due("7: with dirt", x.clean(), 3);
        due("7: ticks behind", x.count(8), 31);
        due("7: not ticks of burning", x.count(9), 24);
        due("7: heat behind", x.heat(0), 5);
        due("7: dirt behind", x.count(5), 0);
        due("7: it is an act", x.count(17), 4);
        due("7: again", x.clean(), NONE);
        due("7: it is undone", x.undo(), 3);
        due("7: the dirt is back", x.count(5), 3);
        due("7: the setting before it stays", x.count(13), 3);
        x.undo();
        due("7: the ticks of cleaning at first", x.clean() + x.count(8), 3 + 48);
        BeamCuts y = row(5);
        for (int i = 0; i < 4; i++) {
            y.cut(i);
        }
        due("7: a dirty lens", y.takes(4), 2 + 12);
        y.clean();
        due("7: a clean lens", y.takes(4), 2 + 8);
    }

    private static void promise8() {
        BeamCuts x = new BeamCuts();
        char[] letters = {'c', ' ', '\u0000', '\uffff', ';', '\u00e9', '\n'};
        for (int i = 0; i < 60; i++) {
            due("8: type() of the letter " + i, x.type(letters[i % letters.length]), i + 1);
        }
        due("8: the 61st", x.type('c'), FULL);
        due("8: the length stays", x.count(18), 60);
        due("8: it is no act", x.count(17), 0);
        x.tell(0, 0, 2, 2);
        x.undo();
        due("8: the text is not undone", x.count(18), 60);
        x.clearText();
        due("8: behind a text that was emptied", x.type('k'), 1);
        due("8: it stands at the front", x.perform(), 1);
    }

    private static void promise9() {
        BeamCuts x = new BeamCuts();
        due("9: of an empty text", x.clearText(), 0);
        Due.write(x, "c0;c1");
        due("9: clearText()", x.clearText(), 5);
        due("9: the length then", x.count(18), 0);
        due("9: the text is empty", x.perform(), -100);
        due("9: again", x.clearText(), 0);
        due("9: it is no act", x.count(17), 0);
    }

    private static void promise10() {
        faultsOfTexts();
        BeamCuts x = new BeamCuts();
        x.tell(0, 0, 9, 9);
        x.tell(2, 2, 3, 3);
        due("10: all of it", Due.perform(x, "c1;l0@2;k;w5;c0"), 5);
        due("10: one act", x.count(17), 3);
        // 4 + 16 for the inner one, 20 for cleaning, 5 for waiting, 12 + 64 for the outer one.
        due("10: ticks", x.count(8), 4 + 16 + 20 + 5 + 12 + 64);
        due("10: the text stays", x.count(18), 15);
        due("10: it can be undone at once", x.undo(), 2);
        due("10: all of it is undone", x.count(8) + x.shape(0, 4) + x.count(2), 0);
        due("10: the text stays to be performed", x.perform(), 5);

        x = new BeamCuts();
        x.tell(0, 0, 9, 9);
        x.tell(2, 2, 3, 3);
        due("10: a refusal stops it", Due.perform(x, "c1;w7;l0@1;c1;c0"), NOT_POSSIBLE);
        due("10: nothing is done", x.count(8) + x.count(5) + x.shape(0, 4) + x.count(2) + x.count(12), 0);
        due("10: nothing is recorded", x.count(17), 2);
        due("10: an unknown shape stops it", Due.perform(x, "c1;c2"), NOT_POSSIBLE);
        due("10: an unknown shape's lead stops it", Due.perform(x, "l2@1"), NOT_POSSIBLE);
        due("10: a cut shape's lead stops it", Due.perform(x, "c1;l1@1"), NOT_POSSIBLE);
        due("10: what would return NONE does not stop it", Due.perform(x, "k;l0@0;w1"), 3);
        due("10: things that all return NONE", Due.perform(x, "k;l0@0"), 2);
        due("10: they are an act, too", x.count(17), 4);
        due("10: heat refuses within the plan", Due.perform(x, "c1;c0"), 2);
        x.undo();
        x.set(2, 0);
        due("10: heat stops it", Due.perform(x, "c1;c0"), NOT_POSSIBLE);
        due("10: waiting serves", Due.perform(x, "c1;w4;c0"), 3);

        x = new BeamCuts();
        StringBuilder many = new StringBuilder("k");
        for (int i = 1; i < 30; i++) {
            many.append(";k");
        }
        due("10: thirty things", Due.perform(x, many.toString()), 30);
        due("10: an end too early at 60", Due.perform(x, many + ";"), -160);
        due("10: a faulty text is not recorded", x.count(17), 1);
        Due.perform(x, "c11");
        due("10: letters of an earlier text are gone", Due.perform(x, "c"), -101);
        String waits = "w999;".repeat(11);
        due("10: sixty letters", Due.perform(x, waits + "w99;k"), 13);
        due("10: a number that ends too early at 60", Due.perform(x, waits + "w99;w"), -160);
        due("10: a number that ends at 60", Due.perform(x, waits + "k;w10"), 13);
        due("10: a fault at the last letter", Due.perform(x, waits + "w9999"), -159);
        due("10: shapes of two digits", Due.perform(row(12), "c11;c10;l9@3;c9"), 4);
    }

    private static void faultsOfTexts() {
        String[] texts = {"", "c", "l", "w", "l0", "l0@", "k;", "c1;", "c12", "c05", "c00", "c110", "c20", "c9a", "x",
            " c0", "c 0", "c-1", "c0,", "c0;;", ";", "l12@0", "l11@4", "l1@30", "l0@00", "l0#1", "l@1", "l10@", "w0",
            "w01", "w1000", "w9999", "w100", "w100x", "w1;", "wk", "k0", "kk", "k;x", "K", "C0", "c0;l0@1;w1;k;q", "1",
            "c\u0660", "c0\u0000", "k;w999;w1000", "@", "l00@1"};
        int[] faults = {0, 1, 1, 1, 2, 3, 2, 3, 2, 2, 2, 3, 2, 2, 0,
            0, 1, 1, 2, 3, 0, 2, 4, 4, 4, 2, 1, 4, 1,
            1, 4, 4, -1, 4, 3, 1, 1, 1, 2, 0, 0, 13, 0,
            1, 2, 11, 0, 2};
        due("10: as many texts as faults", texts.length, faults.length);
        for (int i = 0; i < texts.length; i++) {
            BeamCuts x = new BeamCuts();
            due("10: perform() of \"" + texts[i] + "\"", Due.perform(x, texts[i]), faults[i] < 0 ? 1 : -100 - faults[i]);
            due("10: the text stays", x.count(18), texts[i].length());
        }
    }

    private static void promise11() {
        BeamCuts x = row(2);
        for (int what : new int[] {-1, 2, LEAST, GREATEST}) {
            due("11: stopped(" + what + ")", x.stopped(what), BAD_VALUE);
        }
        due("11: nothing was stopped", x.stopped(0), NONE);
        due("11: nothing was stopped", x.stopped(1), NONE);
        Due.perform(x, "c");
        due("11: a fault is no stop", x.stopped(0), NONE);
        Due.perform(x, "k;c0;c0");
        due("11: its number", x.stopped(0), 2);
        due("11: its error", x.stopped(1), -11);
        Due.perform(x, "c7");
        due("11: the latest number", x.stopped(0), 0);
        due("11: the latest error", x.stopped(1), UNKNOWN);
        Due.perform(x, "c0;l0@3");
        due("11: a lead's number", x.stopped(0), 1);
        due("11: a lead's error", x.stopped(1), NOT_POSSIBLE);
        Due.perform(x, "c0;c1");
        Due.perform(x, "x");
        x.undo();
        x.keep();
        x.restore();
        due("11: the number stays", x.stopped(0), 1);
        due("11: the error stays", x.stopped(1), NOT_POSSIBLE);
        x.set(2, 0);
        x.set(1, 0);
        Due.perform(x, "w3;c0;k;c1");
        due("11: heat's number", x.stopped(0), 3);
        due("11: heat's error", x.stopped(1), -14);
        due("11: bad is told behind a stop, too", x.stopped(2), BAD_VALUE);
    }

    private static void promise12() {
        BeamCuts x = new BeamCuts();
        due("12: of an empty history", x.undo(), NONE);
        x.tell(3, 3, 4, 4);
        x.setLead(0, 1);
        x.cut(0);
        Due.write(x, "k");
        x.pause(3);
        x.clean();
        x.set(1, 5);
        due("12: at most four states", x.count(17), 4);
        due("12: undo set", x.undo(), 3);
        due("12: the setting is back", x.count(14), 1);
        due("12: undo clean", x.undo(), 2);
        due("12: the dirt is back", x.count(5), 1);
        due("12: undo pause", x.undo(), 1);
        due("12: the heat is back", x.heat(0), 12);
        due("12: the ticks are back", x.count(8), 6 + 3 + 24);
        due("12: undo cut", x.undo(), 0);
        due("12: it is whole", x.shape(0, 5), 0);
        due("12: it has no rank", x.shape(0, 10), NONE);
        due("12: it has not tilted", x.shape(0, 9), 0);
        due("12: the beam is back", x.count(6) + x.count(7), 0);
        due("12: the ticks of burning are back", x.count(9), 0);
        due("12: older states are dropped", x.undo(), NONE);
        due("12: what was dropped stays", x.shape(0, 4), 1);
        due("12: the text stays", x.count(18), 1);
        x.cut(0);
        due("12: the rank is counted anew", x.shape(0, 10), 0);
        x.undo();
        due("12: it is no act", x.undo(), NONE);
    }

    private static void promise13() {
        BeamCuts x = new BeamCuts();
        due("13: without shapes", x.keep(), 0);
        due("13: it is no act", x.count(17), 0);
        x.tell(0, 0, 2, 2);
        x.tell(2, 0, 2, 2);
        due("13: with two", x.keep(), 2);
        x.tell(4, 0, 2, 2);
        due("13: the later one", x.restore(), 2);
        x.undo();
        due("13: in place of the one that was", x.keep(), 3);
        x.undo();
        due("13: the latest one", x.restore(), 3);
    }

    private static void promise14() {
        BeamCuts x = new BeamCuts();
        due("14: without a snapshot", x.restore(), NONE);
        due("14: NONE is not recorded", x.count(17), 0);
        x.tell(0, 0, 4, 4);
        x.keep();
        x.cut(0);
        x.set(2, 7);
        x.tell(8, 0, 4, 4);
        Due.write(x, "c0;c0");
        x.perform();
        due("14: restore()", x.restore(), 1);
        due("14: the shape is whole", x.shape(0, 5), 0);
        due("14: the setting is back", x.count(15), 150);
        due("14: the heat is back", x.count(12), 0);
        due("14: the ticks are back", x.count(8), 0);
        due("14: the text stays", x.count(18), 5);
        due("14: the stop stays", x.stopped(0), 0);
        due("14: it is an act", x.count(17), 4);
        x.cut(0);
        due("14: the snapshot stays", x.restore(), 1);
        due("14: the shape is whole again", x.shape(0, 5), 0);
        due("14: restoring without a change is an act, too", x.restore(), 1);
        due("14: undo it", x.undo(), 3);
        due("14: undo the one before", x.undo(), 2);
        due("14: the shape is cut", x.shape(0, 5), 1);
        x.undo();
        due("14: undo the first one", x.undo(), 0);
        due("14: two shapes", x.count(0), 2);
        due("14: undo leaves the snapshot", x.restore(), 1);
    }

    private static void promise15() {
        BeamCuts x = new BeamCuts();
        x.tell(2, 3, 20, 16);
        x.tell(4, 6, 5, 4);
        x.tell(3, 4, 18, 14);
        x.tell(5, 7, 2, 2);
        x.tell(24, 0, 2, 3);
        int[][] facts = {{2, 3, 20, 16, 0, 0, NONE, 14, 68, 0, NONE}, {4, 6, 5, 4, 0, 0, 2, 8, 14, 0, NONE},
            {3, 4, 18, 14, 0, 0, 0, 10, 60, 0, NONE}, {5, 7, 2, 2, 0, 0, 1, 0, 4, 0, NONE},
            {24, 0, 2, 3, 0, 0, NONE, 0, 6, 0, NONE}};
        for (int shape = 0; shape < facts.length; shape++) {
            for (int what = 0; what < 11; what++) {
                due("15: shape(" + shape + ", " + what + ")", x.shape(shape, what), facts[shape][what]);
            }
        }
        for (int what : new int[] {-1, 11, LEAST, GREATEST}) {
            due("15: shape(0, " + what + ")", x.shape(0, what), BAD_VALUE);
        }
        for (int shape : new int[] {-1, 5, 12, 13, LEAST, GREATEST}) {
            due("15: shape(" + shape + ", 0)", x.shape(shape, 0), UNKNOWN);
        }
        due("15: unknown is told before bad", x.shape(5, 11), UNKNOWN);
        x.cut(3);
        x.setLead(4, 2);
        x.cut(4);
        x.set(3, 0);
        x.cut(2);
        due("15: the rank of the first cut", x.shape(3, 10), 0);
        due("15: the rank of the second cut", x.shape(4, 10), 1);
        due("15: the rank of the third cut", x.shape(2, 10), 2);
        due("15: a lost one has no rank", x.shape(1, 10), NONE);
        due("15: a lost one", x.shape(1, 5), 2);
        due("15: a cut one", x.shape(2, 5), 1);
        due("15: a lead", x.shape(4, 4), 2);
        due("15: it tilted", x.shape(4, 9), 1);
        due("15: what is inside stays so", x.shape(0, 7), 14);
        due("15: the outer shape stays so", x.shape(1, 6), 2);
    }

    private static void promise16() {
        BeamCuts x = unfading();
        for (int square = 0; square < 12; square++) {
            x.tell(8 * (square % 4), 8 * (square / 4), 2, 2 + square % 5);
            x.cut(square);
        }
        for (int square = 0; square < 12; square++) {
            due("16: heat(" + square + ")", x.heat(square), 4 + 2 * (square % 5));
        }
        for (int square : new int[] {-1, 12, LEAST, GREATEST}) {
            due("16: heat(" + square + ")", x.heat(square), UNKNOWN);
        }
    }

    private static void promise17() {
        BeamCuts x = unfading();
        x.tell(0, 0, 9, 9);
        x.tell(1, 1, 5, 5);
        x.tell(2, 2, 2, 2);
        x.tell(9, 9, 2, 2);
        due("17: of one with whole ones inside", x.reason(0), 3);
        due("17: of one that can be cut", x.reason(2), 0);
        x.cut(2);
        due("17: of a cut one", x.reason(2), 1);
        x.set(2, 3);
        due("17: of a hot one with a whole one inside", x.reason(0), 3);
        due("17: of a hot one", x.reason(1), 4);
        due("17: of one in a cold square", x.reason(3), 0);
        x.set(3, 0);
        due("17: of a hot one that may hold whole ones", x.reason(0), 4);
        x.set(2, 4);
        due("17: of one as hot as the limit", x.reason(0), 0);
        x.cut(0);
        due("17: of a lost one", x.reason(1), 2);
        x.set(3, 1);
        due("17: of a lost hot one", x.reason(1), 2);
        due("17: of a cut hot one", x.reason(2), 1);
        for (int shape : new int[] {-1, 4, 12, LEAST, GREATEST}) {
            due("17: reason(" + shape + ")", x.reason(shape), UNKNOWN);
        }
        due("17: it is no act and changes nothing", x.count(17), 4);
    }

    private static void promise18() {
        BeamCuts x = unfading();
        x.tell(4, 5, 9, 6);
        x.tell(6, 7, 3, 3);
        due("18: with a whole one inside", x.takes(0), 9 + 52);
        x.setLead(0, 1);
        due("18: to the upper right corner", x.takes(0), 17 + 52);
        x.setLead(0, 2);
        due("18: to the lower right corner", x.takes(0), 22 + 52);
        x.setLead(0, 3);
        due("18: to the lower left corner", x.takes(0), 14 + 52);
        x.cut(1);
        due("18: from the right and from above", x.takes(0), 2 + 3 + 52);
        x.set(2, 0);
        due("18: it is too hot", x.reason(0), 4);
        due("18: whatever the heat is", x.takes(0), 2 + 3 + 52);
        due("18: of a cut one", x.takes(1), NOT_POSSIBLE);
        for (int shape : new int[] {-1, 2, 12, LEAST, GREATEST}) {
            due("18: takes(" + shape + ")", x.takes(shape), UNKNOWN);
        }
        x = row(9);
        for (int i = 0; i < 8; i++) {
            int[] fields = {2, 2, 2, 2, 3, 3, 3, 3};
            due("18: with the dirt " + i, x.takes(8), 16 - 2 * Math.max(i - 1, 0) + 4 * fields[i]);
            x.cut(i);
        }
        due("18: with the dirt 8", x.takes(8), 2 + 16);
        x = new BeamCuts();
        x.set(3, 0);
        x.tell(0, 0, 9, 9);
        x.tell(2, 2, 2, 2);
        x.cut(0);
        due("18: of a lost one", x.takes(1), NOT_POSSIBLE);
    }

    private static void promise19() {
        BeamCuts x = new BeamCuts();
        x.tell(0, 0, 8, 8);
        x.tell(1, 1, 3, 3);
        x.tell(16, 0, 3, 3);
        due("19: with a whole one inside", x.coolsIn(0), NOT_POSSIBLE);
        due("19: it can now", x.coolsIn(1), 0);
        x.cut(1);
        due("19: of a cut one", x.coolsIn(1), NOT_POSSIBLE);
        due("19: it can be cut with the heat 8", x.coolsIn(0), 0);
        x.set(2, 1);
        due("19: 8 fades to 1 in 7 ticks, 2 of them going", x.coolsIn(0), 5);
        x.set(1, 2);
        due("19: 8 fades to 0 in 4 ticks of 2", x.coolsIn(0), 2);
        x.set(1, 3);
        due("19: 8 fades to 0 in 3 ticks of 3", x.coolsIn(0), 1);
        x.set(1, 20);
        due("19: it fades on the way", x.coolsIn(0), 0);
        x.set(1, 0);
        due("19: it does not fade", x.coolsIn(0), NONE);
        due("19: a cold one", x.coolsIn(2), 0);
        x.set(1, 1);
        due("19: waiting less does not serve", x.pause(4), 4);
        due("19: so it is refused", x.cut(0), -14);
        due("19: one tick is left", x.coolsIn(0), 1);
        x.pause(1);
        due("19: then it can", x.coolsIn(0), 0);
        x.set(3, 0);
        x.tell(3 + 16, 4, 8, 8);
        x.tell(5 + 16, 6, 3, 3);
        x.cut(3);
        due("19: of a lost one", x.coolsIn(4), NOT_POSSIBLE);
        for (int shape : new int[] {-1, 5, 12, LEAST, GREATEST}) {
            due("19: coolsIn(" + shape + ")", x.coolsIn(shape), UNKNOWN);
        }
        x = unfading();
        x.tell(0, 0, 8, 8);
        x.tell(1, 1, 3, 3);
        x.tell(4, 4, 2, 2);
        x.cut(1);
        x.set(2, 1);
        due("19: a whole one inside comes before heat", x.coolsIn(0), NOT_POSSIBLE);
    }

    private static void promise20() {
        BeamCuts x = new BeamCuts();
        due("20: without shapes", x.best(), NONE);
        x.tell(8, 0, 2, 2);
        x.tell(0, 8, 2, 2);
        x.tell(4, 4, 2, 2);
        x.tell(0, 0, 3, 3);
        due("20: of equal ones the lowest", x.best(), 0);
        x.setLead(0, 1);
        due("20: the others are nearer then", x.best(), 1);
        x.cut(3);
        x.cut(2);
        due("20: what is cut is not best", x.best(), 1);
        x.set(2, 3);
        x.set(1, 0);
        x.tell(6, 0, 2, 2);
        due("20: what is too hot is not best", x.best(), 1);
        x.cut(1);
        x.cut(0);
        due("20: none can be for heat", x.best(), NONE);
        x.set(2, 999);
        due("20: the last one", x.best(), 4);
        x.cut(4);
        due("20: all are cut", x.best(), NONE);
        x = new BeamCuts();
        x.tell(0, 0, 9, 9);
        x.tell(4, 4, 3, 3);
        due("20: what holds a whole one is not best", x.best(), 1);
        x.set(3, 0);
        x.tell(9, 20, 3, 3);
        due("20: a lesser edge is better than a nearer one", x.best(), 1);
    }

    private static void promise21() {
        BeamCuts x = new BeamCuts();
        due("21: without shapes", x.ordered(0), NONE);
        due("21: ordered(-1)", x.ordered(-1), BAD_VALUE);
        due("21: ordered(LEAST)", x.ordered(LEAST), BAD_VALUE);
        due("21: ordered(GREATEST)", x.ordered(GREATEST), NONE);
        x.tell(0, 0, 9, 9);
        x.tell(20, 0, 3, 3);
        x.tell(2, 2, 4, 4);
        x.tell(3, 3, 2, 2);
        due("21: the first", x.ordered(0), 3);
        due("21: the second", x.ordered(1), 2);
        due("21: the third", x.ordered(2), 1);
        due("21: the fourth", x.ordered(3), 0);
        due("21: no fifth", x.ordered(4), NONE);
        due("21: no twelfth", x.ordered(11), NONE);
        due("21: no thirteenth", x.ordered(12), NONE);
        due("21: nothing is changed", x.count(2) + x.count(8) + x.count(12), 0);
        due("21: nothing is recorded", x.count(17), 4);
        x.cut(3);
        due("21: from then on", x.ordered(0), 2);
        x.set(3, 0);
        x.cut(2);
        due("21: of three left", x.ordered(1), 0);

        x = new BeamCuts();
        x.set(3, 0);
        x.tell(0, 0, 16, 8);
        x.tell(1, 1, 14, 6);
        x.setLead(1, 2);
        // Shape 0 takes 88; shape 1 takes 20 + 72 and is lost with it.
        due("21: the outer one is better", x.ordered(0), 0);
        due("21: what is lost is not cut", x.ordered(1), NONE);
        x.set(3, 1);
        due("21: the inner one must be first", x.ordered(0), 1);
        due("21: then the outer one", x.ordered(1), 0);
        orderedWithWaiting();
        due("21: all twelve", row(12).ordered(11), 11);
    }

    /** Shapes in a square that must be cold: the beam is at the first one, whose edge has 4 fields. */
    private static BeamCuts waitingSheet(int column, int size) {
        BeamCuts x = new BeamCuts();
        x.set(2, 0);
        x.tell(0, 0, 2, 2);
        x.tell(column, 0, 4, 4);
        x.tell(0, 2, size, size);
        return x;
    }

    private static void orderedWithWaiting() {
        BeamCuts x = waitingSheet(3, 3);
        due("21: the first one without waiting", x.ordered(0), 0);
        // Behind 1 tick the shape 1 can be cut, as 3 are for going; the shape 2, which takes less, behind 2.
        due("21: the one with the fewest ticks of waiting", x.ordered(1), 1);
        due("21: the one with more of them", x.ordered(2), 2);
        x = waitingSheet(2, 2);
        // Behind 2 ticks both can be cut.
        due("21: of two the one that takes fewer ticks", x.ordered(1), 2);
        due("21: the one that takes more", x.ordered(2), 1);
        due("21: no fourth", x.ordered(3), NONE);
        x.set(1, 0);
        due("21: the first one needs no waiting", x.ordered(0), 0);
        due("21: no waiting serves", x.ordered(1), NONE);
    }

    private static void promise22() {
        BeamCuts x = new BeamCuts();
        due("22: without shapes", x.allTakes(), 0);
        x.tell(0, 0, 3, 3);
        due("22: one", x.allTakes(), 16);
        x.tell(3, 0, 4, 4);
        x.tell(0, 3, 2, 2);
        // The shapes 2, 0, 1: ways of 3, 3 and 3.
        due("22: three", x.allTakes(), 3 + 8 + 3 + 16 + 3 + 24);
        x.set(2, 0);
        // The shape 1 is next behind the shape 2, as 6 ticks of going serve; then the heat is 12.
        due("22: with waiting", x.allTakes(), 3 + 8 + 6 + 24 + 9 + 3 + 16);
        due("22: with the fewest ticks of waiting", waitingSheet(3, 3).allTakes(), 8 + 1 + 27 + 7 + 5 + 16);
        due("22: with waiting for two", waitingSheet(2, 2).allTakes(), 8 + 2 + 10 + 28);
        due("22: nothing is changed", x.count(8) + x.count(2), 0);
        x.set(1, 0);
        due("22: some would be left whole", x.allTakes(), NONE);
        x.cut(0);
        due("22: all would be left whole", x.allTakes(), NONE);
        x.set(1, 1);
        due("22: the ticks so far are not told", x.allTakes(), 5 + 11 + 30);
        x.set(2, 999);
        x.cut(1);
        x.cut(2);
        due("22: all are cut", x.allTakes(), 0);

        x = new BeamCuts();
        x.tell(0, 0, 16, 8);
        x.tell(1, 1, 14, 6);
        x.setLead(1, 2);
        due("22: the inner one first", x.allTakes(), 20 + 72 + 20 + 88);
        x.set(3, 0);
        due("22: lost ones are not left whole", x.allTakes(), 88);
        due("22: with a lens that gets dirty", row(5).allTakes(), 8 + 3 * 10 + 14);
        due("22: all twelve", row(12).allTakes(), 11 * 2 + 4 * 8 + 4 * 12 + 4 * 16);
    }

    private static void promise23() {
        BeamCuts x = unfading();
        x.tell(16, 8, 8, 8);
        x.tell(18, 10, 3, 3);
        x.tell(0, 0, 4, 4);
        x.tell(30, 20, 2, 4);
        x.tell(28, 20, 2, 2);
        x.set(3, 0);
        x.set(0, 33);
        x.cut(0);
        x.setLead(3, 2);
        x.cut(3);
        x.cut(2);
        x.pause(5);
        Due.write(x, "c0;");
        // Ways: 24, then 15 + 15, then 31 + 23; edges: 28, 8 and 12.
        int[] counts = {5, 1, 3, 1, 1, 3, 0, 0, 24 + 30 + 54 + 96 + 5, 96, 28, 6, 48, 33, 0, 150, 0, 4, 3};
        for (int what = 0; what < counts.length; what++) {
            due("23: count(" + what + ")", x.count(what), counts[what]);
        }
        for (int what : new int[] {-1, 19, LEAST, GREATEST}) {
            due("23: count(" + what + ")", x.count(what), BAD_VALUE);
        }
        x = unfading();
        x.tell(14, 6, 4, 4);
        x.cut(0);
        due("23: the greatest heat", x.count(10), 3);
        due("23: the lowest square of several", x.count(11), 1);
        due("23: all heat", x.count(12), 12);
        due("23: it is no act", x.count(17), 3);
    }

    public static void main(String[] args) {
        promise1();
        promise2();
        promise3();
        promise4();
        promise5();
        promise6();
        promise7();
        promise8();
        promise9();
        promise10();
        promise11();
        promise12();
        promise13();
        promise14();
        promise15();
        promise16();
        promise17();
        promise18();
        promise19();
        promise20();
        promise21();
        promise22();
        promise23();
        Due.end();
    }
}
