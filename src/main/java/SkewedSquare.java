import java.util.Arrays;

// A square of cells through which two matrices walk in skewed steps, and what comes of it
// when cells are faulty. The promises are in ../shared/DOC.md.
public final class SkewedSquare {
    public static final int INVALID_ARGUMENT = -1000001;
    public static final int NOT_POSSIBLE = -1000002;
    public static final int LIMIT_REACHED = -1000003;
    public static final int NOT_FOUND = -1000004;

    private static final int MOST_SIDE = 4;
    private static final int MOST_LENGTH = 6;
    private static final int MOST_VALUE = 99;
    private static final int MOST_TICKS = 20;
    private static final int MOST_STATES = 4;
    private static final int MOST_SIGNS = 80;
    private static final int MOST_DIGITS = 2;
    private static final int FIRST_SIDE = 2;
    private static final int FIRST_LENGTH = 2;
    private static final int FIRST_SIGN = 32;
    private static final int LAST_SIGN = 126;

    // Beyond all entries and sums, so that it can stand for a number that is not there.
    private static final int NOTHING = -999999999;

    private static final int ADDS_NOTHING = 1;
    private static final int ADDS_TWICE = 2;
    private static final int ZERO_RIGHT = 3;
    private static final int ZERO_DOWN = 4;

    private static final int BAD_SIGN = 1;
    private static final int BAD_SHAPE = 2;

    private final State now = new State();
    // Made once, since wouldBeWrong and best do all tiles without touching what is.
    private final State trial = new State();
    private final History history = new History();
    private final Text text = new Text();

    public SkewedSquare() {
    }

    // ---- square, matrices

    public int side(int n) {
        if (n < 1 || n > MOST_SIDE) {
            return INVALID_ARGUMENT;
        }
        history.remember(now);
        int before = now.square.side;
        now.square.renew(n);
        now.tile.begun = false;
        now.forgetResults();
        return before;
    }

    public int shape(int rows, int inner, int columns) {
        if (!isLength(rows) || !isLength(inner) || !isLength(columns)) {
            return INVALID_ARGUMENT;
        }
        history.remember(now);
        now.leftMatrix.renew(rows, inner, 0);
        now.rightMatrix.renew(inner, columns, 0);
        now.tile.begun = false;
        now.forgetResults();
        return now.tiles();
    }

    public int left(int row, int place, int value) {
        return setEntry(now.leftMatrix, row, place, value);
    }

    public int right(int place, int column, int value) {
        return setEntry(now.rightMatrix, place, column, value);
    }

    public int fault(int row, int column, int kind) {
        if (!now.square.has(row, column) || kind < 0 || kind > ZERO_DOWN) {
            return INVALID_ARGUMENT;
        }
        if (now.tile.begun) {
            return NOT_POSSIBLE;
        }
        history.remember(now);
        int before = now.square.kindAt(row, column);
        now.square.setKind(row, column, kind);
        return before;
    }

    public int leave(int column) {
        if (column < 0 || column > now.square.side) {
            return INVALID_ARGUMENT;
        }
        if (now.tile.begun) {
            return NOT_POSSIBLE;
        }
        history.remember(now);
        int before = now.square.leftOut;
        now.square.leftOut = column;
        return before;
    }

    // ---- tiles

    public int begin(int row, int column) {
        if (row < 0 || row >= now.tilesDown() || column < 0 || column >= now.tilesAcross()) {
            return INVALID_ARGUMENT;
        }
        if (now.tile.begun) {
            return NOT_POSSIBLE;
        }
        history.remember(now);
        now.beginTile(row, column);
        return now.tile.ticksLeft();
    }

    public int tick(int many) {
        if (many < 1 || many > MOST_TICKS) {
            return INVALID_ARGUMENT;
        }
        if (!now.tile.begun || now.tile.ticksLeft() == 0) {
            return NOT_POSSIBLE;
        }
        history.remember(now);
        now.goOn(many);
        return now.tile.ticksLeft();
    }

    public int drain() {
        if (!now.tile.begun || now.tile.ticksLeft() > 0) {
            return NOT_POSSIBLE;
        }
        history.remember(now);
        now.drainTile();
        return now.knownEntries();
    }

    public int all() {
        if (now.tile.begun) {
            return NOT_POSSIBLE;
        }
        history.remember(now);
        return now.doAllTiles();
    }

    // ---- what there is

    public int entry(int which, int row, int column) {
        if (which < 0 || which > 1) {
            return INVALID_ARGUMENT;
        }
        Matrix matrix = which == 0 ? now.leftMatrix : now.rightMatrix;
        return matrix.has(row, column) ? matrix.at(row, column) : INVALID_ARGUMENT;
    }

    public int cellOf(int row, int column, int what) {
        if (row < 0 || row >= now.square.side || column < 0 || column >= now.square.side) {
            return INVALID_ARGUMENT;
        }
        if (what < 0 || what > 5) {
            return INVALID_ARGUMENT;
        }
        int place = now.square.placeOf(column);
        if (what == 3) {
            return place;
        }
        if (what == 4) {
            return now.square.kindAt(row, place);
        }
        return now.tile.begun ? ofCellAtWork(Tile.cell(row, column), what) : NOT_POSSIBLE;
    }

    public int result(int row, int column, int due) {
        if (due < 0 || due > 1 || !now.results.has(row, column)) {
            return INVALID_ARGUMENT;
        }
        if (due == 1) {
            return now.dueAt(row, column);
        }
        return orNotFound(now.results.at(row, column));
    }

    public int count(int what) {
        switch (what) {
            case 0: return now.square.side;
            case 1: return now.leftMatrix.rows;
            case 2: return now.leftMatrix.columns;
            case 3: return now.rightMatrix.columns;
            case 4: return now.tiles();
            case 5: return now.square.leftOut;
            case 6: return now.tile.begun ? 1 : 0;
            case 7: return now.tile.begun ? now.tile.row : NOT_FOUND;
            case 8: return now.tile.begun ? now.tile.column : NOT_FOUND;
            case 9: return now.tile.begun ? now.tile.ticks : NOT_FOUND;
            case 10: return now.tile.begun ? now.tile.ticksLeft() : NOT_FOUND;
            case 11: return now.knownEntries();
            case 12: return now.wrongEntries();
            case 13: return now.square.faultyCells();
            case 14: return history.size;
            case 15: return text.length;
            default: return INVALID_ARGUMENT;
        }
    }

    // ---- what is wrong

    public int suspects(int which) {
        if (which < 0 || which > 1) {
            return INVALID_ARGUMENT;
        }
        return which == 0 ? now.suspectRows() : now.suspectColumns();
    }

    public int wouldBeWrong(int column) {
        if (column < 0 || column > now.square.side) {
            return INVALID_ARGUMENT;
        }
        return wrongWithout(column);
    }

    public int best() {
        int found = 0;
        int fewest = wrongWithout(0);
        for (int column = 1; column <= now.square.side; column++) {
            int wrong = wrongWithout(column);
            if (wrong <= fewest) {
                found = column;
                fewest = wrong;
            }
        }
        return found;
    }

    public int undo() {
        if (history.size == 0) {
            return NOT_POSSIBLE;
        }
        history.restore(now);
        return history.size;
    }

    // ---- texts

    public int type(int character) {
        if (character < FIRST_SIGN || character > LAST_SIGN) {
            return INVALID_ARGUMENT;
        }
        if (text.length >= MOST_SIGNS) {
            return LIMIT_REACHED;
        }
        text.append((char) character);
        return text.length;
    }

    public int clearText() {
        int before = text.length;
        text.length = 0;
        return before;
    }

    public int textFault(int what) {
        if (what < 0 || what > 1) {
            return INVALID_ARGUMENT;
        }
        text.scan();
        if (text.reason == 0) {
            return NOT_FOUND;
        }
        return what == 0 ? text.faultPlace : text.reason;
    }

    public int read(int which) {
        if (which < 0 || which > 1) {
            return INVALID_ARGUMENT;
        }
        if (now.tile.begun) {
            return NOT_POSSIBLE;
        }
        text.scan();
        if (text.reason != 0) {
            return NOT_POSSIBLE;
        }
        history.remember(now);
        if (which == 0) {
            now.takeLeft(text.matrix);
        } else {
            now.takeRight(text.matrix);
        }
        return text.matrix.rows * text.matrix.columns;
    }

    // ---- what several calls share

    private static boolean isLength(int length) {
        return length >= 1 && length <= MOST_LENGTH;
    }

    private static int orNotFound(int number) {
        return number == NOTHING ? NOT_FOUND : number;
    }

    private int setEntry(Matrix matrix, int row, int column, int value) {
        if (!matrix.has(row, column) || value < -MOST_VALUE || value > MOST_VALUE) {
            return INVALID_ARGUMENT;
        }
        if (now.tile.begun) {
            return NOT_POSSIBLE;
        }
        history.remember(now);
        int before = matrix.at(row, column);
        matrix.put(row, column, value);
        now.forgetResults();
        return before;
    }

    private int ofCellAtWork(int cell, int what) {
        switch (what) {
            case 0: return now.tile.sumOf(cell);
            case 1: return orNotFound(now.tile.rightwardOf(cell));
            case 2: return orNotFound(now.tile.downwardOf(cell));
            default: return now.tile.meetingsOf(cell);
        }
    }

    private int wrongWithout(int column) {
        trial.copyFrom(now);
        trial.square.leftOut = column;
        trial.doAllTiles();
        return trial.wrongEntries();
    }

    // A matrix in the corner of a field that is wide enough for every shape.
    private static final class Matrix {
        int rows = FIRST_LENGTH;
        int columns = FIRST_LENGTH;
        final int[] entries = new int[MOST_LENGTH * MOST_LENGTH];

        boolean has(int row, int column) {
            return row >= 0 && row < rows && column >= 0 && column < columns;
        }

        // Looks at the place without a call of has: best is deep enough in calls here.
        int at(int row, int column) {
            if (row < 0 || row >= rows || column < 0 || column >= columns) {
                return 0;
            }
            return entries[row * MOST_LENGTH + column];
        }

        void put(int row, int column, int value) {
            if (has(row, column)) {
                entries[row * MOST_LENGTH + column] = value;
            }
        }

        void renew(int newRows, int newColumns, int value) {
            if (isLength(newRows) && isLength(newColumns)) {
                rows = newRows;
                columns = newColumns;
                Arrays.fill(entries, value);
            }
        }

        void copyFrom(Matrix other) {
            rows = other.rows;
            columns = other.columns;
            System.arraycopy(other.entries, 0, entries, 0, entries.length);
        }

        int sumOfRow(int row) {
            int sum = 0;
            for (int column = 0; column < columns; column++) {
                sum += at(row, column);
            }
            return sum;
        }

        int sumOfColumn(int column) {
            int sum = 0;
            for (int row = 0; row < rows; row++) {
                sum += at(row, column);
            }
            return sum;
        }

        boolean isWholeInRow(int row) {
            for (int column = 0; column < columns; column++) {
                if (at(row, column) == NOTHING) {
                    return false;
                }
            }
            return true;
        }

        boolean isWholeInColumn(int column) {
            for (int row = 0; row < rows; row++) {
                if (at(row, column) == NOTHING) {
                    return false;
                }
            }
            return true;
        }
    }

    // The cells by their places, with their faults.
    private static final class Square {
        int side = FIRST_SIDE;
        int leftOut = FIRST_SIDE;
        final int[] kinds = new int[MOST_SIDE * (MOST_SIDE + 1)];

        void renew(int newSide) {
            if (newSide >= 1 && newSide <= MOST_SIDE) {
                side = newSide;
                leftOut = newSide;
                Arrays.fill(kinds, 0);
            }
        }

        boolean has(int row, int place) {
            return row >= 0 && row < side && place >= 0 && place <= side;
        }

        int kindAt(int row, int place) {
            return has(row, place) ? kinds[row * (MOST_SIDE + 1) + place] : 0;
        }

        void setKind(int row, int place, int kind) {
            if (has(row, place)) {
                kinds[row * (MOST_SIDE + 1) + place] = kind;
            }
        }

        int placeOf(int use) {
            return use < leftOut ? use : use + 1;
        }

        int faultyCells() {
            int faulty = 0;
            for (int row = 0; row < side; row++) {
                for (int place = 0; place <= side; place++) {
                    if (kindAt(row, place) != 0) {
                        faulty++;
                    }
                }
            }
            return faulty;
        }

        void copyFrom(Square other) {
            side = other.side;
            leftOut = other.leftOut;
            System.arraycopy(other.kinds, 0, kinds, 0, kinds.length);
        }
    }

    // The tile at work, and what its cells (by their uses) hold.
    private static final class Tile {
        boolean begun;
        int row;
        int column;
        int height;
        int width;
        int ticks;
        int ticksNeeded;
        final int[] sums = new int[MOST_SIDE * MOST_SIDE];
        final int[] meetings = new int[MOST_SIDE * MOST_SIDE];
        final int[] rightward = new int[MOST_SIDE * MOST_SIDE];
        final int[] downward = new int[MOST_SIDE * MOST_SIDE];

        static int cell(int row, int column) {
            return row * MOST_SIDE + column;
        }

        static boolean isCell(int cell) {
            return cell >= 0 && cell < MOST_SIDE * MOST_SIDE;
        }

        void empty() {
            Arrays.fill(sums, 0);
            Arrays.fill(meetings, 0);
            Arrays.fill(rightward, NOTHING);
            Arrays.fill(downward, NOTHING);
            ticks = 0;
        }

        int ticksLeft() {
            return ticksNeeded - ticks;
        }

        int sumOf(int cell) {
            return isCell(cell) ? sums[cell] : 0;
        }

        int meetingsOf(int cell) {
            return isCell(cell) ? meetings[cell] : 0;
        }

        int rightwardOf(int cell) {
            return isCell(cell) ? rightward[cell] : NOTHING;
        }

        int downwardOf(int cell) {
            return isCell(cell) ? downward[cell] : NOTHING;
        }

        void pass(int cell, int fromLeft, int fromAbove, int kind) {
            if (!isCell(cell)) {
                return;
            }
            if (fromLeft != NOTHING && fromAbove != NOTHING) {
                meetings[cell]++;
                sums[cell] += timesAdded(kind) * fromLeft * fromAbove;
            }
            rightward[cell] = kind == ZERO_RIGHT ? zeroIfAny(fromLeft) : fromLeft;
            downward[cell] = kind == ZERO_DOWN ? zeroIfAny(fromAbove) : fromAbove;
        }

        private static int timesAdded(int kind) {
            if (kind == ADDS_NOTHING) {
                return 0;
            }
            return kind == ADDS_TWICE ? 2 : 1;
        }

        private static int zeroIfAny(int number) {
            return number == NOTHING ? NOTHING : 0;
        }

        void copyFrom(Tile other) {
            begun = other.begun;
            row = other.row;
            column = other.column;
            height = other.height;
            width = other.width;
            ticks = other.ticks;
            ticksNeeded = other.ticksNeeded;
            System.arraycopy(other.sums, 0, sums, 0, sums.length);
            System.arraycopy(other.meetings, 0, meetings, 0, meetings.length);
            System.arraycopy(other.rightward, 0, rightward, 0, rightward.length);
            System.arraycopy(other.downward, 0, downward, 0, downward.length);
        }
    }

    // All that undo brings back.
    private static final class State {
        final Square square = new Square();
        final Matrix leftMatrix = new Matrix();
        final Matrix rightMatrix = new Matrix();
        final Matrix results = new Matrix();
        final Tile tile = new Tile();

        State() {
            forgetResults();
        }

        void copyFrom(State other) {
            square.copyFrom(other.square);
            leftMatrix.copyFrom(other.leftMatrix);
            rightMatrix.copyFrom(other.rightMatrix);
            results.copyFrom(other.results);
            tile.copyFrom(other.tile);
        }

        void forgetResults() {
            results.renew(leftMatrix.rows, rightMatrix.columns, NOTHING);
        }

        void takeLeft(Matrix matrix) {
            leftMatrix.copyFrom(matrix);
            if (rightMatrix.rows != matrix.columns) {
                rightMatrix.renew(matrix.columns, rightMatrix.columns, 0);
            }
            forgetResults();
        }

        void takeRight(Matrix matrix) {
            rightMatrix.copyFrom(matrix);
            if (leftMatrix.columns != matrix.rows) {
                leftMatrix.renew(leftMatrix.rows, matrix.rows, 0);
            }
            forgetResults();
        }

        int tilesDown() {
            return tilesAlong(leftMatrix.rows);
        }

        int tilesAcross() {
            return tilesAlong(rightMatrix.columns);
        }

        int tiles() {
            return tilesDown() * tilesAcross();
        }

        private int tilesAlong(int length) {
            return square.side > 0 ? (length + square.side - 1) / square.side : 0;
        }

        void beginTile(int row, int column) {
            tile.empty();
            tile.begun = true;
            tile.row = row;
            tile.column = column;
            tile.height = Math.min(square.side, leftMatrix.rows - row * square.side);
            tile.width = Math.min(square.side, rightMatrix.columns - column * square.side);
            tile.ticksNeeded = tile.height + tile.width + leftMatrix.columns - 2;
        }

        void goOn(int many) {
            int ticks = Math.min(many, tile.ticksLeft());
            for (int i = 0; i < ticks; i++) {
                goOnce();
            }
        }

        // From the last cell back to the first one, so that what is on its way to a cell
        // is still that of the tick before.
        private void goOnce() {
            for (int row = tile.height - 1; row >= 0; row--) {
                for (int column = tile.width - 1; column >= 0; column--) {
                    int kind = square.kindAt(row, square.placeOf(column));
                    tile.pass(Tile.cell(row, column), fromLeft(row, column), fromAbove(row, column), kind);
                }
            }
            tile.ticks++;
        }

        private int fromLeft(int row, int column) {
            if (column > 0) {
                return tile.rightwardOf(Tile.cell(row, column - 1));
            }
            int matrixRow = tile.row * square.side + row;
            int place = tile.ticks - row;
            return leftMatrix.has(matrixRow, place) ? leftMatrix.at(matrixRow, place) : NOTHING;
        }

        private int fromAbove(int row, int column) {
            if (row > 0) {
                return tile.downwardOf(Tile.cell(row - 1, column));
            }
            int matrixColumn = tile.column * square.side + column;
            int place = tile.ticks - column;
            return rightMatrix.has(place, matrixColumn) ? rightMatrix.at(place, matrixColumn) : NOTHING;
        }

        void drainTile() {
            int firstRow = tile.row * square.side;
            int firstColumn = tile.column * square.side;
            for (int row = 0; row < tile.height; row++) {
                for (int column = 0; column < tile.width; column++) {
                    results.put(firstRow + row, firstColumn + column, tile.sumOf(Tile.cell(row, column)));
                }
            }
            tile.begun = false;
        }

        int doAllTiles() {
            int taken = 0;
            int down = tilesDown();
            int across = tilesAcross();
            for (int row = 0; row < down; row++) {
                for (int column = 0; column < across; column++) {
                    beginTile(row, column);
                    taken += tile.ticksLeft();
                    goOn(tile.ticksLeft());
                    drainTile();
                }
            }
            return taken;
        }

        int dueAt(int row, int column) {
            int sum = 0;
            for (int place = 0; place < leftMatrix.columns; place++) {
                sum += leftMatrix.at(row, place) * rightMatrix.at(place, column);
            }
            return sum;
        }

        int knownEntries() {
            int known = 0;
            for (int row = 0; row < results.rows; row++) {
                for (int column = 0; column < results.columns; column++) {
                    if (results.at(row, column) != NOTHING) {
                        known++;
                    }
                }
            }
            return known;
        }

        int wrongEntries() {
            int wrong = 0;
            for (int row = 0; row < results.rows; row++) {
                for (int column = 0; column < results.columns; column++) {
                    int known = results.at(row, column);
                    if (known != NOTHING && known != dueAt(row, column)) {
                        wrong++;
                    }
                }
            }
            return wrong;
        }

        int suspectRows() {
            int set = 0;
            for (int row = 0; row < results.rows; row++) {
                if (results.isWholeInRow(row) && results.sumOfRow(row) != dueSumOfRow(row)) {
                    set |= 1 << row;
                }
            }
            return set;
        }

        int suspectColumns() {
            int set = 0;
            for (int column = 0; column < results.columns; column++) {
                if (results.isWholeInColumn(column) && results.sumOfColumn(column) != dueSumOfColumn(column)) {
                    set |= 1 << column;
                }
            }
            return set;
        }

        private int dueSumOfRow(int row) {
            int sum = 0;
            for (int place = 0; place < leftMatrix.columns; place++) {
                sum += leftMatrix.at(row, place) * rightMatrix.sumOfRow(place);
            }
            return sum;
        }

        private int dueSumOfColumn(int column) {
            int sum = 0;
            for (int place = 0; place < leftMatrix.columns; place++) {
                sum += leftMatrix.sumOfColumn(place) * rightMatrix.at(place, column);
            }
            return sum;
        }
    }

    // The latest states, the oldest one first; the objects are used again, never made anew.
    private static final class History {
        final State[] states = new State[MOST_STATES];
        int size;

        History() {
            for (int i = 0; i < states.length; i++) {
                states[i] = new State();
            }
        }

        void remember(State state) {
            if (size >= MOST_STATES) {
                dropOldest();
            }
            if (size >= 0 && size < states.length) {
                states[size].copyFrom(state);
                size++;
            }
        }

        private void dropOldest() {
            State oldest = states[0];
            for (int i = 1; i < states.length; i++) {
                states[i - 1] = states[i];
            }
            states[states.length - 1] = oldest;
            size--;
        }

        void restore(State state) {
            if (size > 0 && size <= states.length) {
                size--;
                state.copyFrom(states[size]);
            }
        }
    }

    // The text, and what the last scan found in it: a fault, or a matrix.
    private static final class Text {
        final char[] signs = new char[MOST_SIGNS];
        int length;
        final Matrix matrix = new Matrix();
        int faultPlace;
        int reason;
        // The entry that is being scanned, and how many entries the first row has.
        private int row;
        private int column;
        private int width;
        private boolean negative;
        private int digits;
        private int value;

        void append(char sign) {
            if (length >= 0 && length < signs.length) {
                signs[length] = sign;
                length++;
            }
        }

        void scan() {
            startScan();
            for (int index = 0; index < length && index < signs.length && reason == 0; index++) {
                scanSign(index, signs[index]);
            }
            if (reason == 0) {
                finishScan();
            }
        }

        private void startScan() {
            matrix.renew(MOST_LENGTH, MOST_LENGTH, 0);
            reason = 0;
            row = 0;
            column = 0;
            width = MOST_LENGTH;
            startEntry();
        }

        private void startEntry() {
            negative = false;
            digits = 0;
            value = 0;
        }

        private void scanSign(int index, char sign) {
            if (sign >= '0' && sign <= '9' && digits < MOST_DIGITS) {
                value = value * 10 + (sign - '0');
                digits++;
            } else if (sign == '-' && digits == 0 && !negative) {
                negative = true;
            } else if (sign == ',' && digits > 0) {
                scanComma(index);
            } else if (sign == ';' && digits > 0) {
                scanSemicolon(index);
            } else {
                setFault(index, BAD_SIGN);
            }
        }

        private void scanComma(int index) {
            if (column + 1 >= width) {
                setFault(index, BAD_SHAPE);
                return;
            }
            endEntry();
            column++;
        }

        private void scanSemicolon(int index) {
            if (row + 1 >= MOST_LENGTH || rowIsShort()) {
                setFault(index, BAD_SHAPE);
                return;
            }
            endEntry();
            endRow();
            row++;
            column = 0;
        }

        private void finishScan() {
            if (digits == 0) {
                setFault(length, BAD_SIGN);
            } else if (rowIsShort()) {
                setFault(length, BAD_SHAPE);
            } else {
                endEntry();
                endRow();
                matrix.rows = row + 1;
                matrix.columns = width;
            }
        }

        private boolean rowIsShort() {
            return row > 0 && column + 1 < width;
        }

        private void endEntry() {
            matrix.put(row, column, negative ? -value : value);
            startEntry();
        }

        private void endRow() {
            if (row == 0) {
                width = column + 1;
            }
        }

        private void setFault(int place, int newReason) {
            faultPlace = place;
            reason = newReason;
        }
    }
}
