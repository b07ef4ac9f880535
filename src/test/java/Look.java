import java.util.ArrayList;
import java.util.List;

// All that an object answers about its state without changing it.
final class Look {
    final List<String> answers = new ArrayList<>();

    private Look(SkewedSquare x) {
        int side = x.count(0);
        int rows = x.count(1);
        int inner = x.count(2);
        int columns = x.count(3);
        for (int what = 0; what <= 15; what++) {
            add("count(" + what + ")", x.count(what));
        }
        addMatrix(x, 0, rows, inner);
        addMatrix(x, 1, inner, columns);
        addResults(x, rows, columns);
        addCells(x, side);
        add("suspects(0)", x.suspects(0));
        add("suspects(1)", x.suspects(1));
        for (int column = 0; column <= side; column++) {
            add("wouldBeWrong(" + column + ")", x.wouldBeWrong(column));
        }
        add("best()", x.best());
        add("textFault(0)", x.textFault(0));
        add("textFault(1)", x.textFault(1));
    }

    static Look at(SkewedSquare x) {
        return new Look(x);
    }

    // How many calls it took: an object is promised for 512 of them.
    int calls() {
        return answers.size() + 4;
    }

    private void add(String call, int answer) {
        answers.add(call + " = " + answer);
    }

    private void addMatrix(SkewedSquare x, int which, int rows, int columns) {
        for (int i = 0; i < rows; i++) {
            for (int j = 0; j < columns; j++) {
                add("entry(" + which + ", " + i + ", " + j + ")", x.entry(which, i, j));
            }
        }
    }

    private void addResults(SkewedSquare x, int rows, int columns) {
        for (int i = 0; i < rows; i++) {
            for (int j = 0; j < columns; j++) {
                add("result(" + i + ", " + j + ", 0)", x.result(i, j, 0));
                add("result(" + i + ", " + j + ", 1)", x.result(i, j, 1));
            }
        }
    }

    private void addCells(SkewedSquare x, int side) {
        for (int i = 0; i < side; i++) {
            for (int j = 0; j < side; j++) {
                for (int what = 0; what <= 5; what++) {
                    add("cellOf(" + i + ", " + j + ", " + what + ")", x.cellOf(i, j, what));
                }
            }
        }
    }

    // Compares answer by answer but count(14): some tests look at states of other depths.
    static void dueSame(String when, Look got, Look want, boolean statesToo) {
        Check.due(when + ": how many answers", got.answers.size(), want.answers.size());
        for (int i = 0; i < Math.min(got.answers.size(), want.answers.size()); i++) {
            if (statesToo || !want.answers.get(i).startsWith("count(14)")) {
                Check.due(when, got.answers.get(i), want.answers.get(i));
            }
        }
    }
}
