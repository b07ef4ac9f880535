import java.util.ArrayList;
import java.util.List;
import java.util.regex.Pattern;

// Long runs of calls against a model that is written in another way: it lets nothing walk, but
// works out by a formula what a cell holds behind a number of ticks; it copies its whole state
// for the history; and it finds faults of texts by patterns over the beginnings of the text.
public final class ModelTest {
    private static final int RUNS = 6000;
    // An object is promised for 512 calls: with the last call's texts and the look they stay below.
    private static final int LEAST_CALLS = 10;
    private static final int MOST_CALLS = 210;
    private static final int PROMISED_CALLS = 512;
    // Every so many runs one takes all the calls that are promised; the others end with a look.
    private static final int LONG_RUN_EVERY = 8;
    private static final int MOST_AT_ONCE = 110;
    private static final String SIGNS = "0123456789,,,;;;-";

    private ModelTest() {
    }

    public static void main(String[] args) {
        for (int run = 1; run <= RUNS && Check.wrongSoFar() == 0; run++) {
            Run next = new Run(run);
            if (run % LONG_RUN_EVERY == 0) {
                next.goToTheLastCall();
            } else {
                next.go();
            }
        }
        Check.end();
    }

    // What undo brings back, copied as a whole.
    private static final class Memory {
        int side = 2;
        int leftOut = 2;
        int rows = 2;
        int inner = 2;
        int columns = 2;
        int[][] a = new int[2][2];
        int[][] b = new int[2][2];
        Integer[][] results = new Integer[2][2];
        int[][] kinds = new int[2][3];
        boolean begun = false;
        int tileRow;
        int tileColumn;
        int ticks;

        Memory copy() {
            Memory other = new Memory();
            other.side = side;
            other.leftOut = leftOut;
            other.rows = rows;
            other.inner = inner;
            other.columns = columns;
            other.a = copyOf(a);
            other.b = copyOf(b);
            other.kinds = copyOf(kinds);
            other.results = new Integer[rows][];
            for (int i = 0; i < rows; i++) {
                other.results[i] = results[i].clone();
            }
            other.begun = begun;
            other.tileRow = tileRow;
            other.tileColumn = tileColumn;
            other.ticks = ticks;
            return other;
        }

        private static int[][] copyOf(int[][] field) {
            int[][] copy = new int[field.length][];
            for (int i = 0; i < field.length; i++) {
                copy[i] = field[i].clone();
            }
            return copy;
        }

        void forget() {
            results = new Integer[rows][columns];
        }

        int down() {
            return (int) Math.ceil(rows / (double) side);
        }

        int across() {
            return (int) Math.ceil(columns / (double) side);
        }

        int needed(int row, int column) {
            int height = 0;
            int width = 0;
            for (int i = 0; i < rows; i++) {
                height += i / side == row ? 1 : 0;
            }
            for (int j = 0; j < columns; j++) {
                width += j / side == column ? 1 : 0;
            }
            return height + width + inner - 2;
        }

        int ticksLeft() {
            return needed(tileRow, tileColumn) - ticks;
        }

        int place(int use, int without) {
            int seen = 0;
            for (int place = 0; place <= side; place++) {
                if (place == without) {
                    continue;
                }
                if (seen == use) {
                    return place;
                }
                seen++;
            }
            return -1;
        }

        // The entries of the result are told by their own places here, the tile by what they are in.
        int comesFromLeft(int row, int column, int p, int without) {
            for (int before = 0; before < column % side; before++) {
                if (kinds[row % side][place(before, without)] == 3) {
                    return 0;
                }
            }
            return a[row][p];
        }

        int comesFromAbove(int row, int column, int p, int without) {
            for (int before = 0; before < row % side; before++) {
                if (kinds[before][place(column % side, without)] == 4) {
                    return 0;
                }
            }
            return b[p][column];
        }

        int meetings(int row, int column, int behind) {
            return Math.max(0, Math.min(inner, behind - row % side - column % side));
        }

        int sum(int row, int column, int behind, int without) {
            int kind = kinds[row % side][place(column % side, without)];
            int sum = 0;
            for (int p = 0; p < meetings(row, column, behind); p++) {
                int product = comesFromLeft(row, column, p, without) * comesFromAbove(row, column, p, without);
                sum += kind == 1 ? 0 : kind == 2 ? product + product : product;
            }
            return sum;
        }

        Integer onItsWay(int row, int column, boolean toTheRight) {
            int p = ticks - 1 - row % side - column % side;
            if (p < 0 || p >= inner) {
                return null;
            }
            int kind = kinds[row % side][place(column % side, leftOut)];
            if (toTheRight) {
                return kind == 3 ? 0 : comesFromLeft(row, column, p, leftOut);
            }
            return kind == 4 ? 0 : comesFromAbove(row, column, p, leftOut);
        }

        int due(int row, int column) {
            int sum = 0;
            for (int p = 0; p < inner; p++) {
                sum += a[row][p] * b[p][column];
            }
            return sum;
        }

        int known() {
            int known = 0;
            for (Integer[] row : results) {
                for (Integer entry : row) {
                    known += entry == null ? 0 : 1;
                }
            }
            return known;
        }

        int wrong() {
            int wrong = 0;
            for (int i = 0; i < rows; i++) {
                for (int j = 0; j < columns; j++) {
                    wrong += results[i][j] != null && results[i][j].intValue() != due(i, j) ? 1 : 0;
                }
            }
            return wrong;
        }

        int wrongWithout(int without) {
            int wrong = 0;
            for (int i = 0; i < rows; i++) {
                for (int j = 0; j < columns; j++) {
                    wrong += sum(i, j, 99, without) != due(i, j) ? 1 : 0;
                }
            }
            return wrong;
        }

        // The sum of the products of sums is the sum of the entries that are due.
        int suspects(boolean byRows) {
            int set = 0;
            for (int line = 0; line < (byRows ? rows : columns); line++) {
                long difference = 0;
                boolean whole = true;
                for (int other = 0; other < (byRows ? columns : rows); other++) {
                    int i = byRows ? line : other;
                    int j = byRows ? other : line;
                    whole &= results[i][j] != null;
                    difference += whole ? results[i][j] - due(i, j) : 0;
                }
                set += whole && difference != 0 ? 1 << line : 0;
            }
            return set;
        }
    }

    // Answers as the document does.
    private static final class Model {
        private static final Pattern BEGINNING = Pattern.compile("(-?[0-9]{1,2}[,;])*(-?[0-9]{0,2})");
        private static final Pattern MATRIX = Pattern.compile("-?[0-9]{1,2}([,;]-?[0-9]{1,2})*");

        Memory m = new Memory();
        final List<Memory> history = new ArrayList<>();
        String text = "";

        void change() {
            history.add(m.copy());
            if (history.size() > 4) {
                history.remove(0);
            }
        }

        static boolean in(int number, int from, int to) {
            return from <= number && number <= to;
        }

        int side(int n) {
            if (!in(n, 1, 4)) {
                return Check.INVALID;
            }
            change();
            int was = m.side;
            m.side = n;
            m.leftOut = n;
            m.kinds = new int[n][n + 1];
            m.begun = false;
            m.forget();
            return was;
        }

        int shape(int rows, int inner, int columns) {
            if (!in(rows, 1, 6) || !in(inner, 1, 6) || !in(columns, 1, 6)) {
                return Check.INVALID;
            }
            change();
            m.rows = rows;
            m.inner = inner;
            m.columns = columns;
            m.a = new int[rows][inner];
            m.b = new int[inner][columns];
            m.begun = false;
            m.forget();
            return m.down() * m.across();
        }

        int put(boolean intoLeft, int row, int column, int value) {
            int rows = intoLeft ? m.rows : m.inner;
            int columns = intoLeft ? m.inner : m.columns;
            if (!in(row, 0, rows - 1) || !in(column, 0, columns - 1) || !in(value, -99, 99)) {
                return Check.INVALID;
            }
            if (m.begun) {
                return Check.NOT_POSSIBLE;
            }
            change();
            int[][] matrix = intoLeft ? m.a : m.b;
            int was = matrix[row][column];
            matrix[row][column] = value;
            m.forget();
            return was;
        }

        int fault(int row, int column, int kind) {
            if (!in(row, 0, m.side - 1) || !in(column, 0, m.side) || !in(kind, 0, 4)) {
                return Check.INVALID;
            }
            if (m.begun) {
                return Check.NOT_POSSIBLE;
            }
            change();
            int was = m.kinds[row][column];
            m.kinds[row][column] = kind;
            return was;
        }

        int leave(int column) {
            if (!in(column, 0, m.side)) {
                return Check.INVALID;
            }
            if (m.begun) {
                return Check.NOT_POSSIBLE;
            }
            change();
            int was = m.leftOut;
            m.leftOut = column;
            return was;
        }

        int begin(int row, int column) {
            if (!in(row, 0, m.down() - 1) || !in(column, 0, m.across() - 1)) {
                return Check.INVALID;
            }
            if (m.begun) {
                return Check.NOT_POSSIBLE;
            }
            change();
            m.begun = true;
            m.tileRow = row;
            m.tileColumn = column;
            m.ticks = 0;
            return m.ticksLeft();
        }

        int tick(int many) {
            if (!in(many, 1, 20)) {
                return Check.INVALID;
            }
            if (!m.begun || m.ticksLeft() == 0) {
                return Check.NOT_POSSIBLE;
            }
            change();
            m.ticks += Math.min(many, m.ticksLeft());
            return m.ticksLeft();
        }

        int drain() {
            if (!m.begun || m.ticksLeft() != 0) {
                return Check.NOT_POSSIBLE;
            }
            change();
            for (int i = 0; i < m.rows; i++) {
                for (int j = 0; j < m.columns; j++) {
                    if (i / m.side == m.tileRow && j / m.side == m.tileColumn) {
                        m.results[i][j] = m.sum(i, j, m.ticks, m.leftOut);
                    }
                }
            }
            m.begun = false;
            return m.known();
        }

        int all() {
            if (m.begun) {
                return Check.NOT_POSSIBLE;
            }
            change();
            for (int i = 0; i < m.rows; i++) {
                for (int j = 0; j < m.columns; j++) {
                    m.results[i][j] = m.sum(i, j, 99, m.leftOut);
                }
            }
            int ticks = 0;
            for (int row = 0; row < m.down(); row++) {
                for (int column = 0; column < m.across(); column++) {
                    ticks += m.needed(row, column);
                }
            }
            return ticks;
        }

        int entry(int which, int row, int column) {
            if (!in(which, 0, 1)) {
                return Check.INVALID;
            }
            int[][] matrix = which == 0 ? m.a : m.b;
            if (!in(row, 0, matrix.length - 1) || !in(column, 0, matrix[0].length - 1)) {
                return Check.INVALID;
            }
            return matrix[row][column];
        }

        int cellOf(int row, int column, int what) {
            if (!in(row, 0, m.side - 1) || !in(column, 0, m.side - 1) || !in(what, 0, 5)) {
                return Check.INVALID;
            }
            if (what == 3) {
                return m.place(column, m.leftOut);
            }
            if (what == 4) {
                return m.kinds[row][m.place(column, m.leftOut)];
            }
            if (!m.begun) {
                return Check.NOT_POSSIBLE;
            }
            int i = m.tileRow * m.side + row;
            int j = m.tileColumn * m.side + column;
            boolean used = i < m.rows && j < m.columns;
            if (what == 0) {
                return used ? m.sum(i, j, m.ticks, m.leftOut) : 0;
            }
            if (what == 5) {
                return used ? m.meetings(i, j, m.ticks) : 0;
            }
            Integer number = used ? m.onItsWay(i, j, what == 1) : null;
            return number == null ? Check.NOT_FOUND : number;
        }

        int result(int row, int column, int due) {
            if (!in(row, 0, m.rows - 1) || !in(column, 0, m.columns - 1) || !in(due, 0, 1)) {
                return Check.INVALID;
            }
            if (due == 1) {
                return m.due(row, column);
            }
            return m.results[row][column] == null ? Check.NOT_FOUND : m.results[row][column];
        }

        int count(int what) {
            if (!in(what, 0, 15)) {
                return Check.INVALID;
            }
            if (in(what, 7, 10) && !m.begun) {
                return Check.NOT_FOUND;
            }
            int faulty = 0;
            for (int[] row : m.kinds) {
                for (int kind : row) {
                    faulty += kind == 0 ? 0 : 1;
                }
            }
            int[] numbers = {m.side, m.rows, m.inner, m.columns, m.down() * m.across(), m.leftOut,
                m.begun ? 1 : 0, m.tileRow, m.tileColumn, m.ticks, m.begun ? m.ticksLeft() : 0,
                m.known(), m.wrong(), faulty, history.size(), text.length()};
            return numbers[what];
        }

        int suspects(int which) {
            return in(which, 0, 1) ? m.suspects(which == 0) : Check.INVALID;
        }

        int wouldBeWrong(int column) {
            return in(column, 0, m.side) ? m.wrongWithout(column) : Check.INVALID;
        }

        int best() {
            int best = m.side;
            for (int column = m.side - 1; column >= 0; column--) {
                best = m.wrongWithout(column) < m.wrongWithout(best) ? column : best;
            }
            return best;
        }

        int undo() {
            if (history.isEmpty()) {
                return Check.NOT_POSSIBLE;
            }
            m = history.remove(history.size() - 1);
            return history.size();
        }

        int type(int character) {
            if (!in(character, 32, 126)) {
                return Check.INVALID;
            }
            if (text.length() == 80) {
                return Check.LIMIT;
            }
            text += (char) character;
            return text.length();
        }

        int clearText() {
            int was = text.length();
            text = "";
            return was;
        }

        // The place times 10, and the reason; 0 without a fault.
        int faultOfText() {
            for (int index = 0; index < text.length(); index++) {
                String beginning = text.substring(0, index + 1);
                if (!BEGINNING.matcher(beginning).matches()) {
                    return index * 10 + 1;
                }
                if (tooMuchOrTooLittle(beginning)) {
                    return index * 10 + 2;
                }
            }
            if (!MATRIX.matcher(text).matches()) {
                return text.length() * 10 + 1;
            }
            String[] rows = text.split(";");
            boolean isShort = entries(rows[rows.length - 1]) < entries(rows[0]);
            return isShort ? text.length() * 10 + 2 : 0;
        }

        private static boolean tooMuchOrTooLittle(String beginning) {
            String[] rows = beginning.split(";", -1);
            int most = rows.length == 1 ? 6 : entries(rows[0]);
            if (entries(rows[rows.length - 1]) > most || rows.length > 6) {
                return true;
            }
            return rows.length > 1 && entries(rows[rows.length - 2]) < most;
        }

        private static int entries(String row) {
            return row.split(",", -1).length;
        }

        int textFault(int what) {
            if (!in(what, 0, 1)) {
                return Check.INVALID;
            }
            int fault = faultOfText();
            if (fault == 0) {
                return Check.NOT_FOUND;
            }
            return what == 0 ? fault / 10 : fault % 10;
        }

        int read(int which) {
            if (!in(which, 0, 1)) {
                return Check.INVALID;
            }
            if (m.begun || faultOfText() != 0) {
                return Check.NOT_POSSIBLE;
            }
            change();
            String[] lines = text.split(";");
            int[][] matrix = new int[lines.length][];
            for (int i = 0; i < lines.length; i++) {
                String[] entries = lines[i].split(",");
                matrix[i] = new int[entries.length];
                for (int j = 0; j < entries.length; j++) {
                    matrix[i][j] = Integer.parseInt(entries[j]);
                }
            }
            int inner = which == 0 ? matrix[0].length : matrix.length;
            if (which == 0) {
                m.a = matrix;
                m.rows = matrix.length;
                m.b = inner == m.inner ? m.b : new int[inner][m.columns];
            } else {
                m.b = matrix;
                m.columns = matrix[0].length;
                m.a = inner == m.inner ? m.a : new int[m.rows][inner];
            }
            m.inner = inner;
            m.forget();
            return matrix.length * matrix[0].length;
        }
    }

    private static final class Run {
        private final int number;
        private final SkewedSquare square = new SkewedSquare();
        private final Model model = new Model();
        private final StringBuilder told = new StringBuilder();
        private long seed;
        private int calls = 0;

        Run(int number) {
            this.number = number;
            seed = number * 7919L;
        }

        void go() {
            int enough = LEAST_CALLS + below(MOST_CALLS - LEAST_CALLS);
            while (calls < enough && Check.wrongSoFar() == 0) {
                oneCall(below(100));
            }
            lookAtAll();
            Check.due("run " + number + ": more calls than are promised", Math.max(calls, PROMISED_CALLS), PROMISED_CALLS);
            tellIfWrong();
        }

        // A text takes many calls at once: so the last ones are single.
        void goToTheLastCall() {
            while (calls < PROMISED_CALLS - MOST_AT_ONCE && Check.wrongSoFar() == 0) {
                oneCall(below(100));
            }
            while (calls < PROMISED_CALLS) {
                singleCall();
            }
            Check.due("run " + number + ": the calls that are promised", calls, PROMISED_CALLS);
            tellIfWrong();
        }

        private void tellIfWrong() {
            if (Check.wrongSoFar() != 0) {
                System.out.println("run " + number + ":" + told);
            }
        }

        private void singleCall() {
            int dice = below(6);
            if (dice == 0) {
                due("undo()", square.undo(), model.undo());
            } else if (dice == 1) {
                due("drain()", square.drain(), model.drain());
            } else if (dice == 2) {
                int many = around(1, 20);
                due("tick(" + many + ")", square.tick(many), model.tick(many));
            } else if (dice == 3) {
                due("all()", square.all(), model.all());
            } else if (dice == 4) {
                typeOne();
            } else {
                int what = around(0, 15);
                due("count(" + what + ")", square.count(what), model.count(what));
            }
        }

        private int below(int bound) {
            seed = seed * 6364136223846793005L + 1442695040888963407L;
            return (int) Math.floorMod(seed >>> 33, (long) bound);
        }

        // Mostly from from to to, but now and then next to it or far from it.
        private int around(int from, int to) {
            int dice = below(40);
            if (dice == 0) {
                return from - 1;
            }
            if (dice == 1) {
                return to + 1;
            }
            if (dice == 2) {
                return below(2) == 0 ? Integer.MAX_VALUE : Integer.MIN_VALUE;
            }
            return from + below(to - from + 1);
        }

        private int value() {
            return below(3) == 0 ? around(-2, 2) : around(-99, 99);
        }

        private void due(String name, int got, int want) {
            calls++;
            told.append('\n').append(name).append(" -> ").append(got);
            Check.due("run " + number + ": " + name, got, want);
        }

        private void oneCall(int dice) {
            Memory m = model.m;
            if (dice < 50) {
                setUp(dice, m);
            } else if (dice < 74) {
                work(dice, m);
            } else {
                texts(dice);
            }
        }

        private void setUp(int dice, Memory m) {
            if (dice < 2) {
                int n = around(1, 4);
                due("side(" + n + ")", square.side(n), model.side(n));
            } else if (dice < 5) {
                int rows = around(1, 6);
                int inner = around(1, 6);
                int columns = around(1, 6);
                due("shape(" + rows + ", " + inner + ", " + columns + ")",
                    square.shape(rows, inner, columns), model.shape(rows, inner, columns));
            } else if (dice < 18) {
                int row = around(0, m.rows - 1);
                int place = around(0, m.inner - 1);
                int value = value();
                due("left(" + row + ", " + place + ", " + value + ")",
                    square.left(row, place, value), model.put(true, row, place, value));
            } else if (dice < 33) {
                int place = around(0, m.inner - 1);
                int column = around(0, m.columns - 1);
                int value = value();
                due("right(" + place + ", " + column + ", " + value + ")",
                    square.right(place, column, value), model.put(false, place, column, value));
            } else if (dice < 40) {
                int row = around(0, m.side - 1);
                int column = around(0, m.side);
                int kind = around(0, 4);
                due("fault(" + row + ", " + column + ", " + kind + ")",
                    square.fault(row, column, kind), model.fault(row, column, kind));
            } else if (dice < 43) {
                int column = around(0, m.side);
                due("leave(" + column + ")", square.leave(column), model.leave(column));
            } else if (dice < 47) {
                for (int many = 1 + below(3); many > 0; many--) {
                    due("undo()", square.undo(), model.undo());
                }
            } else if (dice < 48) {
                due("best()", square.best(), model.best());
            } else {
                int column = around(0, m.side);
                due("wouldBeWrong(" + column + ")", square.wouldBeWrong(column), model.wouldBeWrong(column));
            }
        }

        private void work(int dice, Memory m) {
            if (dice < 54) {
                int row = around(0, m.down() - 1);
                int column = around(0, m.across() - 1);
                due("begin(" + row + ", " + column + ")", square.begin(row, column), model.begin(row, column));
            } else if (dice < 62) {
                int many = below(4) == 0 ? around(1, 20) : around(1, 2);
                due("tick(" + many + ")", square.tick(many), model.tick(many));
            } else if (dice < 66) {
                due("drain()", square.drain(), model.drain());
            } else if (dice < 68) {
                due("all()", square.all(), model.all());
                int which = below(2);
                due("suspects(" + which + ")", square.suspects(which), model.suspects(which));
            } else if (dice < 70) {
                int row = around(0, m.rows - 1);
                int column = around(0, m.columns - 1);
                int which = around(0, 1);
                due("entry(" + which + ", " + row + ", " + column + ")",
                    square.entry(which, row, column), model.entry(which, row, column));
                due("result(" + row + ", " + column + ", " + which + ")",
                    square.result(row, column, which), model.result(row, column, which));
            } else if (dice < 71) {
                int what = around(0, 15);
                due("count(" + what + ")", square.count(what), model.count(what));
            } else {
                int row = around(0, m.side - 1);
                int column = around(0, m.side - 1);
                int what = around(0, 5);
                due("cellOf(" + row + ", " + column + ", " + what + ")",
                    square.cellOf(row, column, what), model.cellOf(row, column, what));
            }
        }

        private void texts(int dice) {
            if (dice < 76) {
                due("clearText()", square.clearText(), model.clearText());
                for (int many = below(12); many > 0; many--) {
                    typeOne();
                }
            } else if (dice < 80) {
                typeMatrix();
            } else if (dice < 88) {
                typeOne();
            } else if (dice < 94) {
                int what = around(0, 1);
                due("textFault(" + what + ")", square.textFault(what), model.textFault(what));
            } else {
                int which = around(0, 1);
                due("read(" + which + ")", square.read(which), model.read(which));
            }
        }

        private void typeOne() {
            int sign = below(12) == 0 ? around(32, 126) : SIGNS.charAt(below(SIGNS.length()));
            due("type(" + sign + ")", square.type(sign), model.type(sign));
        }

        private void typeMatrix() {
            due("clearText()", square.clearText(), model.clearText());
            int rows = 1 + below(below(4) == 0 ? 7 : 4);
            int columns = 1 + below(below(4) == 0 ? 7 : 4);
            for (int i = 0; i < rows; i++) {
                for (int j = 0; j < columns - (below(60) == 0 ? 1 : 0); j++) {
                    String entry = (j > 0 ? "," : i > 0 ? ";" : "") + (below(199) - 99);
                    for (char sign : entry.toCharArray()) {
                        if (model.text.length() == 80 && below(2) == 0) {
                            return;
                        }
                        due("type(" + (int) sign + ")", square.type(sign), model.type(sign));
                    }
                }
            }
            due("textFault(0)", square.textFault(0), model.textFault(0));
            due("textFault(1)", square.textFault(1), model.textFault(1));
        }

        private void lookAtAll() {
            Memory m = model.m;
            for (int what = 0; what <= 15; what++) {
                due("count(" + what + ")", square.count(what), model.count(what));
            }
            due("suspects(0)", square.suspects(0), model.suspects(0));
            due("suspects(1)", square.suspects(1), model.suspects(1));
            for (int column = 0; column <= m.side; column++) {
                due("wouldBeWrong(" + column + ")", square.wouldBeWrong(column), model.wouldBeWrong(column));
            }
            due("best()", square.best(), model.best());
            lookAtMatrix(0, m.rows, m.inner);
            lookAtMatrix(1, m.inner, m.columns);
            for (int i = 0; i < m.rows; i++) {
                for (int j = 0; j < m.columns; j++) {
                    due("result(" + i + ", " + j + ", 0)", square.result(i, j, 0), model.result(i, j, 0));
                }
            }
            for (int i = 0; i < m.side; i++) {
                for (int j = 0; j < m.side; j++) {
                    lookAtCell(i, j);
                }
            }
        }

        private void lookAtMatrix(int which, int rows, int columns) {
            for (int i = 0; i < rows; i++) {
                for (int j = 0; j < columns; j++) {
                    due("entry(" + which + ", " + i + ", " + j + ")",
                        square.entry(which, i, j), model.entry(which, i, j));
                }
            }
        }

        private void lookAtCell(int i, int j) {
            for (int what = 0; what <= 5; what++) {
                due("cellOf(" + i + ", " + j + ", " + what + ")",
                    square.cellOf(i, j, what), model.cellOf(i, j, what));
            }
        }
    }
}
