public final class BeamCuts {
    public static final int UNKNOWN = -1;
    public static final int BAD_VALUE = -2;
    public static final int FULL = -3;
    public static final int NOT_POSSIBLE = -4;
    public static final int NONE = -5;
    public static final int REFUSED = -10;

    private static final int TEXT_FAULT = -100;
    private static final int MOST_STATES = 4;
    private static final int NOT_STOPPED = 0;

    private final Sheet sheet;
    // What an act works on may be changed before its answer is known, so the state before it is held here.
    private final Sheet before;
    // The order of all cuts is found by cutting here, so that the sheet itself stays as it is.
    private final Sheet trial;
    private final Sheet snapshot;
    private final Sheet[] history;
    private final Plan plan;
    private int states;
    private boolean hasSnapshot;
    private int stopNumber;
    private int stopError;

    public BeamCuts() {
        sheet = new Sheet();
        before = new Sheet();
        trial = new Sheet();
        snapshot = new Sheet();
        history = new Sheet[MOST_STATES];
        for (int state = 0; state < MOST_STATES; state++) {
            history[state] = new Sheet();
        }
        plan = new Plan();
        states = 0;
        hasSnapshot = false;
        stopNumber = 0;
        stopError = NOT_STOPPED;
    }

    // ---- shapes

    public int tell(int column, int row, int width, int height) {
        before.copyFrom(sheet);
        return recorded(sheet.addShape(column, row, width, height));
    }

    public int setLead(int shape, int corner) {
        before.copyFrom(sheet);
        return recorded(sheet.changeLead(shape, corner));
    }

    public int set(int which, int value) {
        before.copyFrom(sheet);
        return recorded(sheet.changeSetting(which, value));
    }

    // ---- the beam

    public int cut(int shape) {
        before.copyFrom(sheet);
        return recorded(sheet.cutShape(shape));
    }

    public int pause(int ticks) {
        before.copyFrom(sheet);
        return recorded(sheet.waitFor(ticks));
    }

    public int clean() {
        before.copyFrom(sheet);
        return recorded(sheet.cleanLens());
    }

    // ---- texts

    public int type(char character) {
        return plan.addLetter(character);
    }

    public int clearText() {
        return plan.dropLetters();
    }

    public int perform() {
        int fault = plan.read();
        if (fault != Plan.NO_FAULT) {
            return TEXT_FAULT - fault;
        }
        before.copyFrom(sheet);
        for (int thing = 0; thing < plan.size; thing++) {
            int answer = plan.doThing(thing, sheet);
            if (answer < 0 && answer != NONE) {
                stopNumber = thing;
                stopError = answer;
                sheet.copyFrom(before);
                return NOT_POSSIBLE;
            }
        }
        return recorded(plan.size);
    }

    public int stopped(int what) {
        if (what < 0 || what > 1) {
            return BAD_VALUE;
        }
        if (stopError == NOT_STOPPED) {
            return NONE;
        }
        return what == 0 ? stopNumber : stopError;
    }

    // ---- history

    public int undo() {
        if (states <= 0 || states > MOST_STATES) {
            return NONE;
        }
        states--;
        sheet.copyFrom(history[states]);
        return states;
    }

    public int keep() {
        snapshot.copyFrom(sheet);
        hasSnapshot = true;
        return sheet.told;
    }

    public int restore() {
        if (!hasSnapshot) {
            return NONE;
        }
        before.copyFrom(sheet);
        sheet.copyFrom(snapshot);
        return recorded(sheet.told);
    }

    // ---- what is told

    public int shape(int shape, int what) {
        return sheet.factOfShape(shape, what);
    }

    public int heat(int square) {
        return sheet.heatIn(square);
    }

    public int reason(int shape) {
        return sheet.knows(shape) ? sheet.reasonAgainst(shape) : UNKNOWN;
    }

    public int takes(int shape) {
        return sheet.ticksToCut(shape);
    }

    public int coolsIn(int shape) {
        return sheet.ticksToCool(shape);
    }

    public int best() {
        return sheet.bestShape();
    }

    public int ordered(int rank) {
        if (rank < 0) {
            return BAD_VALUE;
        }
        if (rank >= Sheet.MOST_SHAPES) {
            return NONE;
        }
        trial.copyFrom(sheet);
        int next = NONE;
        for (int cuts = 0; cuts <= rank; cuts++) {
            next = trial.cutNext();
            if (next == NONE) {
                return NONE;
            }
        }
        return next;
    }

    public int allTakes() {
        trial.copyFrom(sheet);
        for (int cuts = 0; cuts < Sheet.MOST_SHAPES; cuts++) {
            if (trial.cutNext() == NONE) {
                break;
            }
        }
        return trial.shapesThatAre(Shape.WHOLE) == 0 ? trial.ticks - sheet.ticks : NONE;
    }

    public int count(int what) {
        if (what == 17) {
            return states;
        }
        if (what == 18) {
            return plan.length;
        }
        return sheet.factOfSheet(what);
    }

    // No act answers less than 0 unless it is an error or NONE, and neither of them is recorded.
    private int recorded(int answer) {
        if (answer >= 0) {
            if (states >= MOST_STATES) {
                dropOldestState();
            }
            history[states].copyFrom(before);
            states++;
        }
        return answer;
    }

    // The dropped state's object becomes the free one at the end, so that no new one is made.
    private void dropOldestState() {
        Sheet oldest = history[0];
        for (int state = 1; state < MOST_STATES; state++) {
            history[state - 1] = history[state];
        }
        history[MOST_STATES - 1] = oldest;
        states = MOST_STATES - 1;
    }

    private static boolean isIn(int value, int least, int greatest) {
        return value >= least && value <= greatest;
    }

    /** A rectangle on the sheet, with how it is now. */
    private static final class Shape {
        static final int WHOLE = 0;
        static final int CUT = 1;
        static final int LOST = 2;

        int left;
        int top;
        int width;
        int height;
        int lead;
        int condition;
        int tilted;
        int rank;
        final int[] edgeIn;

        Shape() {
            left = 0;
            top = 0;
            width = 2;
            height = 2;
            lead = 0;
            condition = WHOLE;
            tilted = 0;
            rank = NONE;
            edgeIn = new int[Sheet.SQUARES];
        }

        void copyFrom(Shape other) {
            left = other.left;
            top = other.top;
            width = other.width;
            height = other.height;
            lead = other.lead;
            condition = other.condition;
            tilted = other.tilted;
            rank = other.rank;
            for (int square = 0; square < Sheet.SQUARES; square++) {
                edgeIn[square] = other.edgeIn[square];
            }
        }

        void place(int column, int row, int columns, int rows) {
            left = column;
            top = row;
            width = columns;
            height = rows;
            lead = 0;
            condition = WHOLE;
            tilted = 0;
            rank = NONE;
            for (int square = 0; square < Sheet.SQUARES; square++) {
                edgeIn[square] = fieldsIn(square, 0) - fieldsIn(square, 1);
            }
        }

        /** How many fields lie in the square, without as many rows and columns at each side as the margin. */
        private int fieldsIn(int square, int margin) {
            int squareLeft = square % Sheet.SQUARES_ACROSS * Sheet.SQUARE_SIDE;
            int squareTop = square / Sheet.SQUARES_ACROSS * Sheet.SQUARE_SIDE;
            int columns = Math.min(left + width - margin, squareLeft + Sheet.SQUARE_SIDE)
                    - Math.max(left + margin, squareLeft);
            int rows = Math.min(top + height - margin, squareTop + Sheet.SQUARE_SIDE)
                    - Math.max(top + margin, squareTop);
            return Math.max(columns, 0) * Math.max(rows, 0);
        }

        boolean isInside(Shape outer) {
            return left > outer.left && left + width < outer.left + outer.width
                    && top > outer.top && top + height < outer.top + outer.height;
        }

        boolean isApartFrom(Shape other) {
            return left + width <= other.left || other.left + other.width <= left
                    || top + height <= other.top || other.top + other.height <= top;
        }

        int edge() {
            return 2 * (width + height) - 4;
        }

        int leadColumn() {
            return lead == 1 || lead == 2 ? left + width - 1 : left;
        }

        int leadRow() {
            return lead == 2 || lead == 3 ? top + height - 1 : top;
        }

        int leadSquare() {
            return leadColumn() / Sheet.SQUARE_SIDE + Sheet.SQUARES_ACROSS * (leadRow() / Sheet.SQUARE_SIDE);
        }
    }

    /** A state: all that an act can change, and that undo() and restore() bring back. */
    private static final class Sheet {
        static final int COLUMNS = 32;
        static final int ROWS = 24;
        static final int SQUARE_SIDE = 8;
        static final int SQUARES_ACROSS = 4;
        static final int SQUARES = 12;
        static final int MOST_SHAPES = 12;
        static final int CORNERS = 4;
        static final int SETTINGS = 4;
        static final int CLEANING = 0;
        static final int COOLING = 1;
        static final int HEAT_LIMIT = 2;
        static final int INNER_FIRST = 3;
        private static final int[] LEAST_SETTINGS = {1, 0, 0, 0};
        private static final int[] GREATEST_SETTINGS = {99, 20, 999, 1};
        static final int LONGEST_WAIT = 999;
        static final int DIRT_STEP = 4;
        static final int IS_CUT = 1;
        static final int IS_LOST = 2;
        static final int HOLDS_WHOLE_SHAPE = 3;
        static final int TOO_HOT = 4;

        private final Shape[] shapes;
        private final int[] heats;
        private final int[] settings;
        int told;
        private int column;
        private int row;
        private int dirt;
        int ticks;
        private int burningTicks;
        private int cuts;

        Sheet() {
            shapes = new Shape[MOST_SHAPES + 1];
            for (int number = 0; number <= MOST_SHAPES; number++) {
                shapes[number] = new Shape();
            }
            heats = new int[SQUARES];
            settings = new int[SETTINGS];
            settings[CLEANING] = 20;
            settings[COOLING] = 1;
            settings[HEAT_LIMIT] = 150;
            settings[INNER_FIRST] = 1;
            told = 0;
            column = 0;
            row = 0;
            dirt = 0;
            ticks = 0;
            burningTicks = 0;
            cuts = 0;
        }

        void copyFrom(Sheet other) {
            for (int number = 0; number < other.told; number++) {
                shapes[number].copyFrom(other.shapes[number]);
            }
            for (int square = 0; square < SQUARES; square++) {
                heats[square] = other.heats[square];
            }
            for (int which = 0; which < SETTINGS; which++) {
                settings[which] = other.settings[which];
            }
            told = other.told;
            column = other.column;
            row = other.row;
            dirt = other.dirt;
            ticks = other.ticks;
            burningTicks = other.burningTicks;
            cuts = other.cuts;
        }

        boolean knows(int number) {
            return number >= 0 && number < told && number < MOST_SHAPES;
        }

        int addShape(int left, int top, int width, int height) {
            if (!isIn(left, 0, COLUMNS - 1) || !isIn(top, 0, ROWS - 1)
                    || !isIn(width, 2, COLUMNS) || !isIn(height, 2, ROWS)
                    || left + width > COLUMNS || top + height > ROWS) {
                return BAD_VALUE;
            }
            // There is one row more than shapes, as the place is looked at before the room.
            Shape added = shapes[told];
            added.place(left, top, width, height);
            if (!fits(added)) {
                return NOT_POSSIBLE;
            }
            if (told >= MOST_SHAPES) {
                return FULL;
            }
            told++;
            return told - 1;
        }

        private boolean fits(Shape added) {
            for (int number = 0; number < told; number++) {
                Shape other = shapes[number];
                boolean isNested = added.isInside(other) || other.isInside(added);
                if (isNested ? other.condition != Shape.WHOLE : !added.isApartFrom(other)) {
                    return false;
                }
            }
            return true;
        }

        int changeLead(int number, int corner) {
            if (!knows(number) || !isIn(corner, 0, CORNERS - 1)) {
                return UNKNOWN;
            }
            Shape shape = shapes[number];
            if (shape.condition != Shape.WHOLE) {
                return NOT_POSSIBLE;
            }
            if (shape.lead == corner) {
                return NONE;
            }
            int previous = shape.lead;
            shape.lead = corner;
            return previous;
        }

        int changeSetting(int which, int value) {
            if (!isIn(which, 0, SETTINGS - 1)) {
                return UNKNOWN;
            }
            if (!isIn(value, LEAST_SETTINGS[which], GREATEST_SETTINGS[which])) {
                return BAD_VALUE;
            }
            if (settings[which] == value) {
                return NONE;
            }
            int previous = settings[which];
            settings[which] = value;
            return previous;
        }

        int cutShape(int number) {
            if (!knows(number)) {
                return UNKNOWN;
            }
            int reason = reasonAgainst(number);
            if (reason != 0) {
                return REFUSED - reason;
            }
            Shape shape = shapes[number];
            coolFor(wayTo(shape));
            column = shape.leadColumn();
            row = shape.leadRow();
            burnEdge(shape);
            shape.condition = Shape.CUT;
            shape.rank = cuts;
            cuts++;
            shape.tilted = heatIn(shape.leadSquare()) == greatestHeat() ? 1 : 0;
            return loseShapesInside(shape);
        }

        private void burnEdge(Shape shape) {
            int burning = burningOf(shape);
            ticks += burning;
            burningTicks += burning;
            for (int square = 0; square < SQUARES; square++) {
                heats[square] += shape.edgeIn[square];
            }
            dirt++;
        }

        private int loseShapesInside(Shape outer) {
            int lost = 0;
            for (int number = 0; number < told; number++) {
                Shape shape = shapes[number];
                if (shape.condition == Shape.WHOLE && shape.isInside(outer)) {
                    shape.condition = Shape.LOST;
                    lost++;
                }
            }
            return lost;
        }

        int waitFor(int waiting) {
            if (!isIn(waiting, 1, LONGEST_WAIT)) {
                return BAD_VALUE;
            }
            coolFor(waiting);
            return greatestHeat();
        }

        int cleanLens() {
            if (dirt == 0) {
                return NONE;
            }
            int previous = dirt;
            coolFor(settings[CLEANING]);
            dirt = 0;
            return previous;
        }

        private void coolFor(int passing) {
            ticks += passing;
            for (int square = 0; square < SQUARES; square++) {
                heats[square] = Math.max(heats[square] - passing * settings[COOLING], 0);
            }
        }

        private int wayTo(Shape shape) {
            return Math.abs(shape.leadColumn() - column) + Math.abs(shape.leadRow() - row);
        }

        private int burningOf(Shape shape) {
            return shape.edge() * (2 + dirt / DIRT_STEP);
        }

        int reasonAgainst(int number) {
            Shape shape = shapes[number];
            if (shape.condition == Shape.CUT) {
                return IS_CUT;
            }
            if (shape.condition == Shape.LOST) {
                return IS_LOST;
            }
            if (settings[INNER_FIRST] == 1 && holdsWholeShape(shape)) {
                return HOLDS_WHOLE_SHAPE;
            }
            return heatOver(shape) > wayTo(shape) * settings[COOLING] ? TOO_HOT : 0;
        }

        private boolean holdsWholeShape(Shape outer) {
            for (int number = 0; number < told; number++) {
                if (shapes[number].condition == Shape.WHOLE && shapes[number].isInside(outer)) {
                    return true;
                }
            }
            return false;
        }

        /** By how much the hottest square of the edge is above the limit now; 0 or less if it is not. */
        private int heatOver(Shape shape) {
            int hottest = 0;
            for (int square = 0; square < SQUARES; square++) {
                if (shape.edgeIn[square] > 0) {
                    hottest = Math.max(hottest, heats[square]);
                }
            }
            return hottest - settings[HEAT_LIMIT];
        }

        int ticksToCut(int number) {
            if (!knows(number)) {
                return UNKNOWN;
            }
            Shape shape = shapes[number];
            return shape.condition == Shape.WHOLE ? wayTo(shape) + burningOf(shape) : NOT_POSSIBLE;
        }

        int ticksToCool(int number) {
            if (!knows(number)) {
                return UNKNOWN;
            }
            int reason = reasonAgainst(number);
            if (reason == 0) {
                return 0;
            }
            if (reason != TOO_HOT) {
                return NOT_POSSIBLE;
            }
            int cooling = settings[COOLING];
            if (cooling <= 0) {
                return NONE;
            }
            Shape shape = shapes[number];
            // Going cools, too: those ticks need not be waited.
            return (heatOver(shape) + cooling - 1) / cooling - wayTo(shape);
        }

        int bestShape() {
            int best = NONE;
            int fewest = 0;
            for (int number = 0; number < told; number++) {
                if (reasonAgainst(number) == 0) {
                    int needed = ticksToCut(number);
                    if (best == NONE || needed < fewest) {
                        best = number;
                        fewest = needed;
                    }
                }
            }
            return best;
        }

        private int fewestTicksToCool() {
            int fewest = NONE;
            for (int number = 0; number < told; number++) {
                int needed = ticksToCool(number);
                if (needed >= 0 && (fewest == NONE || needed < fewest)) {
                    fewest = needed;
                }
            }
            return fewest;
        }

        /** Cuts the best shape, with waiting if it must be, and returns it; NONE if no time serves. */
        int cutNext() {
            int next = bestShape();
            if (next == NONE) {
                int waiting = fewestTicksToCool();
                if (waiting == NONE) {
                    return NONE;
                }
                coolFor(waiting);
                next = bestShape();
            }
            if (next != NONE) {
                cutShape(next);
            }
            return next;
        }

        int heatIn(int square) {
            return isIn(square, 0, SQUARES - 1) ? heats[square] : UNKNOWN;
        }

        private int greatestHeat() {
            return heats[hottestSquare()];
        }

        private int hottestSquare() {
            int hottest = 0;
            for (int square = 1; square < SQUARES; square++) {
                if (heats[square] > heats[hottest]) {
                    hottest = square;
                }
            }
            return hottest;
        }

        private int allHeat() {
            int sum = 0;
            for (int square = 0; square < SQUARES; square++) {
                sum += heats[square];
            }
            return sum;
        }

        int shapesThatAre(int condition) {
            int found = 0;
            for (int number = 0; number < told; number++) {
                if (shapes[number].condition == condition) {
                    found++;
                }
            }
            return found;
        }

        private int shapesThatTilted() {
            int found = 0;
            for (int number = 0; number < told; number++) {
                found += shapes[number].tilted;
            }
            return found;
        }

        private int outerOf(Shape shape) {
            int outer = NONE;
            for (int number = 0; number < told; number++) {
                if (shape.isInside(shapes[number])
                        && (outer == NONE || shapes[number].isInside(shapes[outer]))) {
                    outer = number;
                }
            }
            return outer;
        }

        private int setInside(Shape outer) {
            int inside = 0;
            for (int number = 0; number < told; number++) {
                if (shapes[number].isInside(outer)) {
                    inside |= 1 << number;
                }
            }
            return inside;
        }

        int factOfShape(int number, int what) {
            if (!knows(number)) {
                return UNKNOWN;
            }
            Shape shape = shapes[number];
            switch (what) {
                case 0: return shape.left;
                case 1: return shape.top;
                case 2: return shape.width;
                case 3: return shape.height;
                case 4: return shape.lead;
                case 5: return shape.condition;
                case 6: return outerOf(shape);
                case 7: return setInside(shape);
                case 8: return shape.edge();
                case 9: return shape.tilted;
                case 10: return shape.rank;
                default: return BAD_VALUE;
            }
        }

        int factOfSheet(int what) {
            switch (what) {
                case 0: return told;
                case 1: return shapesThatAre(Shape.WHOLE);
                case 2: return shapesThatAre(Shape.CUT);
                case 3: return shapesThatAre(Shape.LOST);
                case 4: return shapesThatTilted();
                case 5: return dirt;
                case 6: return column;
                case 7: return row;
                case 8: return ticks;
                case 9: return burningTicks;
                case 10: return greatestHeat();
                case 11: return hottestSquare();
                case 12: return allHeat();
                case 13: return settings[CLEANING];
                case 14: return settings[COOLING];
                case 15: return settings[HEAT_LIMIT];
                case 16: return settings[INNER_FIRST];
                default: return BAD_VALUE;
            }
        }
    }

    /** The text, and the things that it tells once it is read. */
    private static final class Plan {
        static final int NO_FAULT = -1;
        static final int CUTTING = 0;
        static final int LEADING = 1;
        static final int WAITING = 2;
        static final int CLEANING = 3;
        static final int MOST_LETTERS = 60;
        // A thing has at least one letter, and between two stands a ";".
        static final int MOST_THINGS = 30;
        static final int GREATEST_SHAPE = 11;
        static final int GREATEST_CORNER = 3;

        private final char[] letters;
        private final int[] kinds;
        private final int[] firsts;
        private final int[] seconds;
        int length;
        int size;
        private int at;

        Plan() {
            letters = new char[MOST_LETTERS];
            kinds = new int[MOST_THINGS];
            firsts = new int[MOST_THINGS];
            seconds = new int[MOST_THINGS];
            length = 0;
            size = 0;
            at = 0;
        }

        int addLetter(char letter) {
            if (length >= MOST_LETTERS) {
                return FULL;
            }
            letters[length] = letter;
            length++;
            return length;
        }

        int dropLetters() {
            int previous = length;
            length = 0;
            return previous;
        }

        /** Reads the text into things; returns the index of its fault, or NO_FAULT. */
        int read() {
            at = 0;
            size = 0;
            while (size < MOST_THINGS) {
                if (!readThing()) {
                    return at;
                }
                size++;
                if (at >= length) {
                    return NO_FAULT;
                }
                if (!readLetter(';')) {
                    return at;
                }
            }
            return at;
        }

        /** Reads one thing behind those that were read; where it has a fault, the reading stays. */
        private boolean readThing() {
            if (readLetter('c')) {
                kinds[size] = CUTTING;
                return readNumber(firsts, 0, GREATEST_SHAPE);
            }
            if (readLetter('l')) {
                kinds[size] = LEADING;
                return readNumber(firsts, 0, GREATEST_SHAPE)
                        && readLetter('@')
                        && readNumber(seconds, 0, GREATEST_CORNER);
            }
            if (readLetter('w')) {
                kinds[size] = WAITING;
                return readNumber(firsts, 1, Sheet.LONGEST_WAIT);
            }
            kinds[size] = CLEANING;
            return readLetter('k');
        }

        private boolean readLetter(char letter) {
            if (at >= length || letters[at] != letter) {
                return false;
            }
            at++;
            return true;
        }

        private boolean readNumber(int[] values, int least, int greatest) {
            int number = digitAt(at);
            if (!isIn(number, Math.max(least, 0), greatest)) {
                return false;
            }
            at++;
            // Behind a zero no digit is allowed, and none that makes the number too great.
            while (at < length && number > 0 && digitAt(at) >= 0 && 10 * number + digitAt(at) <= greatest) {
                number = 10 * number + digitAt(at);
                at++;
            }
            values[size] = number;
            return true;
        }

        /** The digit at the index; -1 if there is none. */
        private int digitAt(int index) {
            if (index < 0 || index >= length || !isIn(letters[index], '0', '9')) {
                return -1;
            }
            return letters[index] - '0';
        }

        int doThing(int thing, Sheet sheet) {
            switch (kinds[thing]) {
                case CUTTING: return sheet.cutShape(firsts[thing]);
                case LEADING: return sheet.changeLead(firsts[thing], seconds[thing]);
                case WAITING: return sheet.waitFor(firsts[thing]);
                case CLEANING: return sheet.cleanLens();
                default: return NONE;
            }
        }
    }
}
