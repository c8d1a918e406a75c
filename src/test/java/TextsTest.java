/** Each sentence of "Terms, TEXTS" and of the promises 8 to 11 that names a boundary case has a test of its own. */
public final class TextsTest {
    private static final int UNKNOWN = -1;
    private static final int BAD_VALUE = -2;
    private static final int FULL = -3;
    private static final int NOT_POSSIBLE = -4;
    private static final int NONE = -5;
    private static final int FAULT = -100;
    private static final String DIGITS = "0123456789";
    // An object is used for at most 512 calls.
    private static final int MOST_CALLS = 512;

    private TextsTest() {
    }

    private static void due(String call, long got, long want) {
        Due.due("texts: " + call, got, want);
    }

    private static void performed(BeamCuts x, String text, int want) {
        due("perform() of \"" + text + "\"", Due.perform(x, text), want);
    }

    /** Twelve shapes that are cold, of 2 by 2 fields, side by side. */
    private static BeamCuts twelve() {
        BeamCuts x = new BeamCuts();
        for (int i = 0; i < 12; i++) {
            due("tell the shape " + i, x.tell(2 * i, 0, 2, 2), i);
        }
        return x;
    }

    // ---- the text

    /** "There is a text of at most 60 characters, empty at first." Promise 8: "FULL if it has 60 characters". */
    private static void sixtyCharacters() {
        BeamCuts x = new BeamCuts();
        due("empty at first", x.count(18), 0);
        due("the fault of the empty text", x.perform(), FAULT);
        String text = "w1;".repeat(19) + "w99";
        for (int i = 0; i < 60; i++) {
            due("type() of the character " + i, x.type(text.charAt(i)), i + 1);
            due("its length", x.count(18), i + 1);
        }
        due("the 61st", x.type('9'), FULL);
        due("the 62nd", x.type(';'), FULL);
        due("its length", x.count(18), 60);
        due("what was refused is no part of it", x.perform(), 20);
        due("all 60 are", x.count(8), 19 + 99);
        due("it stays", x.clearText(), 60);
        due("then it is empty", x.clearText(), 0);
        due("there is room again", x.type('k'), 1);
        due("behind it nothing is left of the old one", x.perform(), 1);
    }

    /** Promise 8: "any character": each can be typed, and what is like an allowed one in its lower byte is a fault. */
    private static void anyCharacter() {
        BeamCuts x = new BeamCuts();
        int[] odd = {0, 1, 10, 32, 127, 128, 255, 256, 256 + 'k', 0x0661, 0x3b00 + 'k', 0x7fff, 0x8000, 0xd800, 0xdc00,
            0xff4b, 0xfffe, 0xffff};
        for (int i = 0; i < odd.length; i++) {
            due("type((char) " + odd[i] + ")", x.type((char) odd[i]), i + 1);
        }
        for (int c : odd) {
            performed(new BeamCuts(), String.valueOf((char) c), FAULT);
            performed(new BeamCuts(), "k" + (char) c, FAULT - 1);
        }
    }

    /** Promise 9: "Returns the length that it had"; it is no error if there was none, and no act. */
    private static void clearing() {
        BeamCuts x = new BeamCuts();
        due("clearText() of the empty text", x.clearText(), 0);
        x.type('x');
        due("clearText() of one character", x.clearText(), 1);
        due("clearText() again", x.clearText(), 0);
        due("the length", x.count(18), 0);
        due("it is no act", x.count(17), 0);
    }

    // ---- what is allowed at each place

    /** For each character behind what may stand before it, whether it is allowed there. */
    private static void eachCharacterAtEachPlace() {
        String[] before = {"", "k;", "c", "c0", "c1", "c2", "c9", "c10", "c11", "l", "l0", "l1", "l2", "l9", "l10",
            "l11", "l0@", "l1@", "l11@", "l0@0", "l0@1", "l0@3", "w", "w1", "w9", "w10", "w99", "w100", "w999", "k",
            "l3@2;w12;c1", "c0;", "w5;", "l0@0;"};
        String[] allowed = {"clwk", "clwk", DIGITS, ";", ";01", ";", ";", ";", ";", DIGITS, "@", "@01", "@", "@", "@",
            "@", "0123", "0123", "0123", ";", ";", ";", "123456789", DIGITS + ";", DIGITS + ";", DIGITS + ";",
            DIGITS + ";", ";", ";", ";", ";01", "clwk", "clwk", "clwk"};
        due("as many sets as places", allowed.length, before.length);
        BeamCuts x = twelve();
        int calls = 12;
        for (int place = 0; place < before.length; place++) {
            for (int c = 0; c < 768; c++) {
                char character = (char) (c < 512 ? c : 0xfd00 + c);
                if (calls > MOST_CALLS - 20) {
                    x = twelve();
                    calls = 12;
                }
                int got = Due.perform(x, before[place] + character);
                calls += before[place].length() + 3;
                boolean isAllowed = allowed[place].indexOf(character) >= 0;
                // An allowed one is either the end of a plan, or the text ends too early behind it.
                boolean isFault = got == FAULT - before[place].length();
                if (isAllowed == isFault || got < FAULT - before[place].length() - 1) {
                    due("(char) " + (int) character + " behind \"" + before[place] + "\"", got, isAllowed ? 0 : FAULT);
                }
            }
        }
    }

    /** "or the length of the text if it ends too early (the empty text does)". */
    private static void endsTooEarly() {
        String[] texts = {"", "c", "l", "w", "l0", "l1", "l11", "l0@", "l11@", "k;", "c0;", "c11;", "l0@1;", "w999;",
            "k;c", "k;l", "k;w", "k;l10", "k;l10@", "k;k;"};
        for (String text : texts) {
            performed(new BeamCuts(), text, FAULT - text.length());
        }
        String[] whole = {"k", "c0", "c1", "c11", "l0@0", "l11@3", "w1", "w99", "w999", "k;k"};
        for (String text : whole) {
            due("no fault in \"" + text + "\"", Due.perform(twelve(), text) > 0 ? 1 : 0, 1);
        }
    }

    /** "Shapes are 0 to 11": each of them, and none more; the beam is at the lead of the one that was cut. */
    private static void shapesInTexts() {
        for (int shape = 0; shape <= 11; shape++) {
            BeamCuts x = twelve();
            performed(x, "c" + shape, 1);
            due("the shape " + shape + " was cut", x.shape(shape, 5), 1);
            due("no other one was", x.count(2), 1);
            x = twelve();
            performed(x, "l" + shape + "@2", 1);
            due("the lead of the shape " + shape, x.shape(shape, 4), 2);
            due("cut at it", x.cut(shape) + x.count(6), 2 * shape + 1);
        }
        for (int shape = 12; shape <= 19; shape++) {
            performed(twelve(), "c" + shape, FAULT - 2);
            performed(twelve(), "l" + shape + "@2", FAULT - 2);
        }
        performed(twelve(), "c20", FAULT - 2);
        performed(twelve(), "c100", FAULT - 3);
        performed(twelve(), "c110", FAULT - 3);
    }

    /** "corners 0 to 3". */
    private static void cornersInTexts() {
        for (int corner = 0; corner <= 3; corner++) {
            BeamCuts x = twelve();
            performed(x, "l4@" + corner, 1);
            due("the lead", x.shape(4, 4), corner);
        }
        for (int corner = 4; corner <= 9; corner++) {
            performed(twelve(), "l4@" + corner, FAULT - 3);
        }
        performed(twelve(), "l4@10", FAULT - 4);
        performed(twelve(), "l4@00", FAULT - 4);
        performed(twelve(), "l4@-1", FAULT - 3);
    }

    /** "w" and ticks (1 to 999: waiting). */
    private static void ticksInTexts() {
        for (int ticks : new int[] {1, 2, 9, 10, 11, 99, 100, 101, 990, 998, 999}) {
            BeamCuts x = new BeamCuts();
            performed(x, "w" + ticks, 1);
            due("the ticks", x.count(8), ticks);
        }
        for (String none : new String[] {"w0", "w00", "w01", "w-1", "w+1", "w 1"}) {
            performed(new BeamCuts(), none, FAULT - 1);
        }
        for (String many : new String[] {"w1000", "w9990", "w9999", "w1001"}) {
            performed(new BeamCuts(), many, FAULT - 4);
        }
    }

    /** "Numbers have no zero in front, unless they are the single digit 0". */
    private static void zerosInFront() {
        String[] texts = {"c00", "c01", "c05", "c010", "c011", "l00@1", "l01@1"};
        for (String text : texts) {
            performed(twelve(), text, FAULT - 2);
        }
        performed(twelve(), "l1@01", FAULT - 4);
        performed(twelve(), "w09", FAULT - 1);
        performed(twelve(), "c0", 1);
        performed(twelve(), "l0@1;l0@0", 2);
        performed(twelve(), "c10", 1);
        performed(twelve(), "w100", 1);
    }

    /** "one or more of these with ";" between two". */
    private static void manyThings() {
        StringBuilder text = new StringBuilder("k");
        for (int things = 1; things <= 30; things++) {
            performed(new BeamCuts(), text.toString(), things);
            text.append(";k");
        }
        due("thirty things have the length", text.length(), 61);
        performed(new BeamCuts(), "k;".repeat(30), FAULT - 60);
        performed(new BeamCuts(), ";k", FAULT);
        performed(new BeamCuts(), "k;;k", FAULT - 2);
        performed(new BeamCuts(), "kk", FAULT - 1);
        performed(new BeamCuts(), "k;k ", FAULT - 3);
        performed(new BeamCuts(), "w999;".repeat(12), FAULT - 60);
        performed(new BeamCuts(), "w999;".repeat(11) + "w9999", FAULT - 59);
        performed(new BeamCuts(), "w999;".repeat(11) + "k;l0@", FAULT - 60);
        performed(new BeamCuts(), "w999;".repeat(11) + "k;w99", 13);
        performed(new BeamCuts(), "x" + "k".repeat(59), FAULT);
    }

    /** "The fault of the text is the index, from 0, of the first character that is not allowed at its place". */
    private static void firstFault() {
        performed(twelve(), "c0;x;y", FAULT - 3);
        performed(twelve(), "c12;c0;w0", FAULT - 2);
        performed(twelve(), "c0;w0;c12", FAULT - 4);
        performed(twelve(), "C0", FAULT);
        performed(twelve(), "c0 ", FAULT - 2);
        BeamCuts x = twelve();
        performed(x, "c0;c0;x", FAULT - 6);
        due("nothing is done before a fault", x.count(2) + x.count(8), 0);
        due("a fault is told before a stop", x.stopped(0), NONE);
    }

    // ---- promise 10

    /** "Does all that the plan tells, one after the other; all of it, or nothing. This is one act." */
    private static void allOrNothing() {
        BeamCuts x = twelve();
        int[] before = Look.stateOf(x);
        performed(x, "c0;l1@2;w5;c1;k;c1", NOT_POSSIBLE);
        Look.same("texts: the last thing is stopped", Look.stateOf(x), before);
        due("nothing is recorded", x.count(17), 4);
        x = twelve();
        performed(x, "c0;l1@2;w5;c1;k", 5);
        due("cut", x.count(2), 2);
        due("ticks", x.count(8), 8 + 5 + 3 + 1 + 8 + 20);
        due("states", x.count(17), 4);
        due("it is one act", x.undo(), 3);
        due("all of it is undone", x.count(2) + x.count(8) + x.shape(1, 4), 0);
        due("the act before it is told's", x.undo() + x.count(0), 2 + 11);
        x = twelve();
        performed(x, "c0;c1;c2;c3;c4", 5);
        due("five things drop one state alone", x.undo(), 3);
        due("and are undone at once", x.count(2), 0);
    }

    /** "What would return NONE does not stop it": a clean lens, a lead that is so already. */
    private static void nothingToDo() {
        BeamCuts x = twelve();
        performed(x, "k;c0;k;k;l1@0;c1", 6);
        due("both are cut", x.count(2), 2);
        due("nothing was stopped", x.stopped(0), NONE);
        x = new BeamCuts();
        performed(x, "k", 1);
        due("it is recorded though it changed nothing", x.count(17), 1);
        due("it is undone", x.undo(), 0);
    }

    /** "what would return an error (a refusal, too) stops it": the number is told from 0, with each kind of error. */
    private static void stops() {
        BeamCuts x = new BeamCuts();
        x.tell(0, 0, 12, 8);
        x.tell(2, 2, 3, 3);
        x.tell(6, 2, 3, 3);
        x.set(1, 0);
        String[] plans = {"c3", "c11", "l3@0", "c1;c1", "c1;l1@2", "c1;l1@0", "k;w1;c0", "k;k;k;c1;c0;c2"};
        int[] numbers = {0, 0, 0, 1, 1, 1, 2, 4};
        int[] errors = {UNKNOWN, UNKNOWN, UNKNOWN, -11, NOT_POSSIBLE, NOT_POSSIBLE, -13, -13};
        due("0 before", x.stopped(0), NONE);
        due("1 before", x.stopped(1), NONE);
        for (int i = 0; i < plans.length; i++) {
            performed(x, plans[i], NOT_POSSIBLE);
            due("its number", x.stopped(0), numbers[i]);
            due("its error", x.stopped(1), errors[i]);
        }
        x.set(3, 0);
        performed(x, "c0;c2", NOT_POSSIBLE);
        due("a lost one", x.stopped(1), -12);
        performed(x, "c0;k;l2@1", NOT_POSSIBLE);
        due("a lost one's lead", x.stopped(1), NOT_POSSIBLE);
        due("its number", x.stopped(0), 2);
        x.set(2, 7);
        performed(x, "c1;w999;c2", NOT_POSSIBLE);
        due("a hot one", x.stopped(1), -14);
        due("nothing was done", x.count(8), 0);
    }

    /** Thirty things, of which the last is stopped. */
    private static void lastOfThirty() {
        BeamCuts x = new BeamCuts();
        performed(x, "k;".repeat(29) + "c0", NOT_POSSIBLE);
        due("the number of the last of thirty", x.stopped(0), 29);
        due("its error", x.stopped(1), UNKNOWN);
        due("no state is recorded", x.count(17), 0);
    }

    /** "the plan of the text, which stays". */
    private static void textStays() {
        BeamCuts x = twelve();
        performed(x, "c0", 1);
        due("behind a plan that was done", x.count(18), 2);
        due("performed again", x.perform(), NOT_POSSIBLE);
        due("behind one that was stopped", x.count(18), 2);
        x.type('x');
        due("with a fault", x.perform(), FAULT - 2);
        due("behind a fault", x.count(18), 3);
        x.undo();
        due("behind undo()", x.count(18), 3);
    }

    // ---- promise 11

    /** "Returns the number; BAD_VALUE; NONE if nothing was stopped yet." */
    private static void stoppedBadly() {
        BeamCuts x = new BeamCuts();
        for (int what : new int[] {Integer.MIN_VALUE, -1, 2, 3, Integer.MAX_VALUE}) {
            due("stopped(" + what + ") before a stop", x.stopped(what), BAD_VALUE);
        }
        due("stopped(0) before", x.stopped(0), NONE);
        due("stopped(1) before", x.stopped(1), NONE);
        performed(x, "c0", NOT_POSSIBLE);
        for (int what : new int[] {Integer.MIN_VALUE, -1, 2, 3, Integer.MAX_VALUE}) {
            due("stopped(" + what + ") behind a stop", x.stopped(what), BAD_VALUE);
        }
        due("stopped(0) behind", x.stopped(0), 0);
        due("stopped(1) behind", x.stopped(1), UNKNOWN);
        due("it is no act", x.count(17), 0);
    }

    /** "Tells of the latest stop of perform()": neither plans that are done, nor faults, nor refused cuts change it. */
    private static void latestStop() {
        BeamCuts x = twelve();
        performed(x, "w3;c1;c1", NOT_POSSIBLE);
        performed(x, "c0", 1);
        performed(x, "c0;", FAULT - 3);
        performed(x, "", FAULT);
        due("a refused cut", x.cut(0), -11);
        due("a refused lead", x.setLead(0, 1), NOT_POSSIBLE);
        due("another object", new BeamCuts().stopped(0), NONE);
        x.keep();
        x.restore();
        x.undo();
        x.undo();
        due("its number stays", x.stopped(0), 2);
        due("its error stays", x.stopped(1), -11);
        performed(x, "l0@1;c0;l0@2", NOT_POSSIBLE);
        due("the later number", x.stopped(0), 2);
        due("the later error", x.stopped(1), NOT_POSSIBLE);
    }

    public static void main(String[] args) {
        sixtyCharacters();
        anyCharacter();
        clearing();
        eachCharacterAtEachPlace();
        endsTooEarly();
        shapesInTexts();
        cornersInTexts();
        ticksInTexts();
        zerosInFront();
        manyThings();
        firstFault();
        allOrNothing();
        nothingToDo();
        stops();
        lastOfThirty();
        textStays();
        stoppedBadly();
        latestStop();
        Due.end();
    }
}
