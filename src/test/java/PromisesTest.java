// Each promise of the document by hand: ordinary inputs, the edges it names, and wrong inputs.
public final class PromisesTest {
    private static final int INVALID = Check.INVALID;
    private static final int NOT_POSSIBLE = Check.NOT_POSSIBLE;
    private static final int LIMIT = Check.LIMIT;
    private static final int NOT_FOUND = Check.NOT_FOUND;
    private static final int LEAST = Check.LEAST;
    private static final int MOST = Check.MOST;

    private PromisesTest() {
    }

    public static void main(String[] args) {
        Check.runTestsOf(PromisesTest.class);
    }

    private static void due(String what, long got, long want) {
        Check.due(what, got, want);
    }

    private static void counts(String when, SkewedSquare x, int... wants) {
        for (int what = 0; what < wants.length; what++) {
            due(when + ": count(" + what + ")", x.count(what), wants[what]);
        }
    }

    static void newObject() {
        SkewedSquare x = new SkewedSquare();
        counts("new", x, 2, 2, 2, 2, 1, 2, 0, NOT_FOUND, NOT_FOUND, NOT_FOUND, NOT_FOUND, 0, 0, 0, 0, 0);
        for (int i = 0; i < 2; i++) {
            for (int j = 0; j < 2; j++) {
                due("new: entry of the left", x.entry(0, i, j), 0);
                due("new: entry of the right", x.entry(1, i, j), 0);
                due("new: result", x.result(i, j, 0), NOT_FOUND);
                due("new: result due", x.result(i, j, 1), 0);
                due("new: kind", x.cellOf(i, j, 4), 0);
                due("new: place", x.cellOf(i, j, 3), j);
            }
        }
        due("new: undo", x.undo(), NOT_POSSIBLE);
        due("new: best", x.best(), 2);
        due("new: tick", x.tick(1), NOT_POSSIBLE);
        due("new: drain", x.drain(), NOT_POSSIBLE);
    }

    static void side() {
        SkewedSquare x = new SkewedSquare();
        for (int wrong : new int[] {0, 5, -1, LEAST, MOST}) {
            due("side(" + wrong + ")", x.side(wrong), INVALID);
        }
        due("nothing changed", x.count(14), 0);
        due("side(1)", x.side(1), 2);
        due("last column left out", x.count(5), 1);
        due("side(4)", x.side(4), 1);
        due("side", x.count(0), 4);
        due("last column left out", x.count(5), 4);
        x.leave(1);
        x.fault(3, 4, 2);
        x.fault(0, 0, 1);
        due("faulty", x.count(13), 2);
        due("side(4) again", x.side(4), 4);
        due("sound again", x.count(13), 0);
        due("last column left out again", x.count(5), 4);
        x.fault(3, 4, 2);
        due("side(3)", x.side(3), 4);
        due("side(4)", x.side(4), 3);
        due("no old fault", x.fault(3, 4, 0), 0);
    }

    static void sideFromWork() {
        SkewedSquare x = new SkewedSquare();
        x.left(0, 0, 7);
        x.all();
        due("known", x.count(11), 4);
        due("the same side", x.side(2), 2);
        due("nothing known", x.count(11), 0);
        due("entries stay", x.entry(0, 0, 0), 7);
        x.begin(0, 0);
        due("side at work", x.side(2), 2);
        due("no tile", x.count(6), 0);
        due("cells without tile", x.cellOf(0, 0, 0), NOT_POSSIBLE);
    }

    static void shape() {
        SkewedSquare x = new SkewedSquare();
        int[] wrongs = {0, 7, -1, LEAST, MOST};
        for (int wrong : wrongs) {
            due("rows " + wrong, x.shape(wrong, 2, 2), INVALID);
            due("inner " + wrong, x.shape(2, wrong, 2), INVALID);
            due("columns " + wrong, x.shape(2, 2, wrong), INVALID);
        }
        due("nothing changed", x.count(14), 0);
        x.left(1, 1, 5);
        x.right(1, 0, 6);
        x.fault(1, 2, 3);
        x.leave(0);
        due("the same shape", x.shape(2, 2, 2), 1);
        due("left is 0", x.entry(0, 1, 1), 0);
        due("right is 0", x.entry(1, 1, 0), 0);
        due("faults stay", x.count(13), 1);
        due("the left out one stays", x.count(5), 0);
        x.all();
        x.begin(0, 0);
        due("shape(6, 1, 5) at work", x.shape(6, 1, 5), 9);
        due("no tile", x.count(6), 0);
        due("nothing known", x.count(11), 0);
        due("last of left", x.entry(0, 5, 0), 0);
        due("behind left", x.entry(0, 5, 1), INVALID);
        due("last of right", x.entry(1, 0, 4), 0);
        due("behind right", x.entry(1, 1, 0), INVALID);
        x.side(4);
        due("tiles of 4", x.shape(5, 6, 4), 2);
        due("tiles of 4", x.shape(4, 6, 4), 1);
        x.side(1);
        due("tiles of 1", x.shape(6, 6, 6), 36);
        x.side(3);
        due("tiles of 3", x.shape(6, 6, 4), 4);
    }

    static void left() {
        SkewedSquare x = new SkewedSquare();
        x.shape(3, 4, 2);
        int states = x.count(14);
        due("row 3", x.left(3, 0, 1), INVALID);
        due("row -1", x.left(-1, 0, 1), INVALID);
        due("row far", x.left(MOST, 0, 1), INVALID);
        due("place 4", x.left(0, 4, 1), INVALID);
        due("place -1", x.left(0, -1, 1), INVALID);
        due("place far", x.left(0, LEAST, 1), INVALID);
        due("value 100", x.left(0, 0, 100), INVALID);
        due("value -100", x.left(0, 0, -100), INVALID);
        due("nothing changed", x.count(14), states);
        due("99", x.left(2, 3, 99), 0);
        due("-99", x.left(2, 3, -99), 99);
        due("what it was", x.left(2, 3, 0), -99);
        x.left(2, 0, 8);
        due("entry", x.entry(0, 2, 0), 8);
        x.all();
        due("known", x.count(11), 6);
        due("the same again", x.left(2, 0, 8), 8);
        due("nothing known", x.count(11), 0);
        x.begin(0, 0);
        due("at work", x.left(0, 0, 1), NOT_POSSIBLE);
        due("at work, wrong", x.left(0, 0, 100), INVALID);
        x.tick(20);
        due("at work, done", x.left(0, 0, 1), NOT_POSSIBLE);
        x.drain();
        due("drained", x.left(0, 0, 1), 0);
    }

    static void right() {
        SkewedSquare x = new SkewedSquare();
        x.shape(2, 4, 3);
        int states = x.count(14);
        due("place 4", x.right(4, 0, 1), INVALID);
        due("place -1", x.right(-1, 0, 1), INVALID);
        due("place far", x.right(MOST, 0, 1), INVALID);
        due("column 3", x.right(0, 3, 1), INVALID);
        due("column -1", x.right(0, -1, 1), INVALID);
        due("column far", x.right(0, LEAST, 1), INVALID);
        due("value 100", x.right(0, 0, 100), INVALID);
        due("value -100", x.right(0, 0, -100), INVALID);
        due("nothing changed", x.count(14), states);
        due("99", x.right(3, 2, 99), 0);
        due("-99", x.right(3, 2, -99), 99);
        due("what it was", x.right(3, 2, 0), -99);
        x.right(0, 2, 8);
        due("entry", x.entry(1, 0, 2), 8);
        x.all();
        due("known", x.count(11), 6);
        due("the same again", x.right(0, 2, 8), 8);
        due("nothing known", x.count(11), 0);
        x.begin(0, 1);
        due("at work", x.right(0, 0, 1), NOT_POSSIBLE);
        due("at work, wrong", x.right(4, 0, 1), INVALID);
        x.tick(20);
        due("at work, done", x.right(0, 0, 1), NOT_POSSIBLE);
    }

    static void fault() {
        SkewedSquare x = new SkewedSquare();
        due("row 2", x.fault(2, 0, 1), INVALID);
        due("row -1", x.fault(-1, 0, 1), INVALID);
        due("column 3", x.fault(0, 3, 1), INVALID);
        due("column -1", x.fault(0, -1, 1), INVALID);
        due("kind 5", x.fault(0, 0, 5), INVALID);
        due("kind -1", x.fault(0, 0, -1), INVALID);
        due("far", x.fault(MOST, LEAST, MOST), INVALID);
        due("nothing changed", x.count(14), 0);
        due("last cell", x.fault(1, 2, 4), 0);
        due("also left out, it is faulty", x.count(13), 1);
        due("what it was", x.fault(1, 2, 1), 4);
        due("sound", x.fault(1, 2, 0), 1);
        due("none is faulty", x.count(13), 0);
        x.left(0, 0, 1);
        x.right(0, 0, 1);
        x.all();
        due("a fault", x.fault(0, 0, 1), 0);
        due("results stay", x.result(0, 0, 0), 1);
        x.begin(0, 0);
        due("at work", x.fault(0, 0, 1), NOT_POSSIBLE);
        due("at work, wrong", x.fault(0, 0, 5), INVALID);
    }

    static void leave() {
        SkewedSquare x = new SkewedSquare();
        due("column 3", x.leave(3), INVALID);
        due("column -1", x.leave(-1), INVALID);
        due("far", x.leave(MOST), INVALID);
        due("nothing changed", x.count(14), 0);
        due("leave(0)", x.leave(0), 2);
        due("places", x.cellOf(0, 0, 3), 1);
        due("places", x.cellOf(0, 1, 3), 2);
        due("leave(1)", x.leave(1), 0);
        due("places", x.cellOf(0, 0, 3), 0);
        due("places", x.cellOf(0, 1, 3), 2);
        due("leave(2)", x.leave(2), 1);
        x.all();
        due("leave(2) again", x.leave(2), 2);
        due("results stay", x.count(11), 4);
        x.begin(0, 0);
        due("at work", x.leave(0), NOT_POSSIBLE);
        due("at work, wrong", x.leave(3), INVALID);
        x.side(4);
        due("leave(4)", x.leave(4), 4);
        due("leave(5)", x.leave(5), INVALID);
    }

    static void begin() {
        SkewedSquare x = new SkewedSquare();
        x.shape(3, 4, 5);
        due("row 2", x.begin(2, 0), INVALID);
        due("row -1", x.begin(-1, 0), INVALID);
        due("column 3", x.begin(0, 3), INVALID);
        due("column -1", x.begin(0, -1), INVALID);
        due("far", x.begin(MOST, MOST), INVALID);
        due("whole", x.begin(0, 1), 6);
        due("at work", x.begin(0, 1), NOT_POSSIBLE);
        due("at work, wrong", x.begin(2, 0), INVALID);
        due("begun", x.count(6), 1);
        due("its row", x.count(7), 0);
        due("its column", x.count(8), 1);
        x.tick(20);
        due("done", x.begin(0, 0), NOT_POSSIBLE);
        x.drain();
        due("the last one", x.begin(1, 2), 4);
        due("its row", x.count(7), 1);
        due("its column", x.count(8), 2);
        due("its ticks", x.count(9), 0);
        x.shape(1, 1, 1);
        due("the smallest", x.begin(0, 0), 1);
        x.side(4);
        x.shape(6, 6, 6);
        due("the greatest", x.begin(0, 0), 12);
    }

    static void beginEmptiesCells() {
        SkewedSquare x = new SkewedSquare();
        Given.readLeftAndRight(x, "1,2;3,4", "5,6;7,8");
        Given.doTile(x, 0, 0);
        x.begin(0, 0);
        for (int i = 0; i < 2; i++) {
            for (int j = 0; j < 2; j++) {
                due("sum", x.cellOf(i, j, 0), 0);
                due("to the right", x.cellOf(i, j, 1), NOT_FOUND);
                due("down", x.cellOf(i, j, 2), NOT_FOUND);
                due("products", x.cellOf(i, j, 5), 0);
            }
        }
    }

    static void tick() {
        SkewedSquare x = new SkewedSquare();
        due("no tile", x.tick(1), NOT_POSSIBLE);
        due("no tile, wrong", x.tick(0), INVALID);
        x.shape(2, 6, 2);
        x.begin(0, 0);
        int states = x.count(14);
        for (int wrong : new int[] {0, 21, -1, LEAST, MOST}) {
            due("tick(" + wrong + ")", x.tick(wrong), INVALID);
        }
        due("nothing changed", x.count(14), states);
        due("tick(1)", x.tick(1), 7);
        due("tick(2)", x.tick(2), 5);
        due("so far", x.count(9), 3);
        due("left", x.count(10), 5);
        due("tick(6)", x.tick(6), 0);
        due("no more than it needs", x.count(9), 8);
        due("done", x.tick(1), NOT_POSSIBLE);
        due("done, wrong", x.tick(21), INVALID);
        x.drain();
        x.begin(0, 0);
        due("tick(20)", x.tick(20), 0);
    }

    static void drain() {
        SkewedSquare x = new SkewedSquare();
        Given.readLeftAndRight(x, "1,2;3,4;5,6", "1,2,3;4,5,6");
        due("no tile", x.drain(), NOT_POSSIBLE);
        x.begin(1, 1);
        due("not begun to tick", x.drain(), NOT_POSSIBLE);
        x.tick(1);
        due("not done", x.drain(), NOT_POSSIBLE);
        x.tick(1);
        due("the last tile", x.drain(), 1);
        due("no tile", x.count(6), 0);
        due("drained", x.drain(), NOT_POSSIBLE);
        due("its entry", x.result(2, 2, 0), 51);
        due("another entry", x.result(2, 1, 0), NOT_FOUND);
        x.begin(0, 1);
        x.tick(20);
        due("the upper right one", x.drain(), 3);
        due("its entry", x.result(0, 2, 0), 15);
        due("its entry", x.result(1, 2, 0), 33);
        Given.doTile(x, 0, 1);
        due("the same again", x.count(11), 3);
        Given.doTile(x, 1, 0);
        Given.doTile(x, 0, 0);
        due("all", x.count(11), 9);
        due("none is wrong", x.count(12), 0);
        x.fault(0, 0, 1);
        Given.doTile(x, 0, 0);
        due("drained anew", x.result(0, 0, 0), 0);
        due("wrong now", x.count(12), 1);
    }

    static void all() {
        SkewedSquare x = new SkewedSquare();
        Given.readLeftAndRight(x, "1,2;3,4;5,6", "1,2,3;4,5,6");
        due("all", x.all(), 4 + 3 + 3 + 2);
        due("no tile", x.count(6), 0);
        due("known", x.count(11), 9);
        due("one change", x.count(14), 3);
        int[][] wants = {{9, 12, 15}, {19, 26, 33}, {29, 40, 51}};
        for (int i = 0; i < 3; i++) {
            for (int j = 0; j < 3; j++) {
                due("result(" + i + ", " + j + ")", x.result(i, j, 0), wants[i][j]);
            }
        }
        due("again", x.all(), 12);
        x.begin(0, 0);
        due("at work", x.all(), NOT_POSSIBLE);
        x.tick(20);
        due("at work, done", x.all(), NOT_POSSIBLE);
        x.side(1);
        x.shape(6, 6, 6);
        due("36 tiles", x.all(), 36 * 6);
        x.side(4);
        due("four tiles", x.all(), 12 + 10 + 10 + 8);
    }

    static void entry() {
        SkewedSquare x = new SkewedSquare();
        Given.readLeftAndRight(x, "1,2;3,4;5,6", "7,8,9,10;11,12,13,14");
        due("left", x.entry(0, 2, 1), 6);
        due("right", x.entry(1, 1, 3), 14);
        due("which 2", x.entry(2, 0, 0), INVALID);
        due("which -1", x.entry(-1, 0, 0), INVALID);
        due("left row 3", x.entry(0, 3, 0), INVALID);
        due("left column 2", x.entry(0, 0, 2), INVALID);
        due("right row 2", x.entry(1, 2, 0), INVALID);
        due("right column 4", x.entry(1, 0, 4), INVALID);
        due("row -1", x.entry(0, -1, 0), INVALID);
        due("column -1", x.entry(1, 0, -1), INVALID);
        due("far", x.entry(0, MOST, LEAST), INVALID);
        x.begin(0, 0);
        due("at work", x.entry(0, 2, 1), 6);
    }

    static void cellOf() {
        SkewedSquare x = new SkewedSquare();
        Given.readLeftAndRight(x, "2,3", "5;7");
        for (int[] wrong : new int[][] {{2, 0, 0}, {-1, 0, 0}, {0, 2, 3}, {0, -1, 0}, {0, 0, 6}, {0, 0, -1}}) {
            due("wrong", x.cellOf(wrong[0], wrong[1], wrong[2]), INVALID);
        }
        due("sum without tile", x.cellOf(0, 0, 0), NOT_POSSIBLE);
        due("right without tile", x.cellOf(0, 0, 1), NOT_POSSIBLE);
        due("down without tile", x.cellOf(0, 0, 2), NOT_POSSIBLE);
        due("place without tile", x.cellOf(0, 0, 3), 0);
        due("fault without tile", x.cellOf(0, 0, 4), 0);
        due("products without tile", x.cellOf(0, 0, 5), NOT_POSSIBLE);
        x.leave(0);
        x.fault(0, 1, 2);
        due("place", x.cellOf(0, 0, 3), 1);
        due("fault by its use", x.cellOf(0, 0, 4), 2);
        due("needs", x.begin(0, 0), 2);
        x.tick(1);
        due("sum", x.cellOf(0, 0, 0), 20);
        due("right", x.cellOf(0, 0, 1), 2);
        due("down", x.cellOf(0, 0, 2), 5);
        due("products", x.cellOf(0, 0, 5), 1);
        due("out of the tile: sum", x.cellOf(0, 1, 0), 0);
        due("out of the tile: right", x.cellOf(0, 1, 1), NOT_FOUND);
        due("out of the tile: down", x.cellOf(1, 0, 2), NOT_FOUND);
        x.tick(1);
        due("sum", x.cellOf(0, 0, 0), 62);
        due("right", x.cellOf(0, 0, 1), 3);
        due("down", x.cellOf(0, 0, 2), 7);
        due("products", x.cellOf(0, 0, 5), 2);
        due("out of the tile: right", x.cellOf(0, 1, 1), NOT_FOUND);
        due("out of the tile: products", x.cellOf(0, 1, 5), 0);
        x.drain();
        due("drained", x.cellOf(0, 0, 0), NOT_POSSIBLE);
    }

    static void cellOfWithFaults() {
        SkewedSquare x = new SkewedSquare();
        Given.readLeftAndRight(x, "2,3;4,5", "6,7;8,9");
        x.fault(0, 0, 3);
        x.fault(0, 1, 4);
        x.fault(1, 0, 1);
        x.begin(0, 0);
        due("nothing yet", x.cellOf(0, 0, 1), NOT_FOUND);
        x.tick(1);
        due("its own product", x.cellOf(0, 0, 0), 12);
        due("a 0 to the right", x.cellOf(0, 0, 1), 0);
        due("still down", x.cellOf(0, 0, 2), 6);
        due("sends nothing yet", x.cellOf(0, 1, 2), NOT_FOUND);
        x.tick(1);
        due("met a 0", x.cellOf(0, 1, 0), 0);
        due("the product with 0 counts", x.cellOf(0, 1, 5), 1);
        due("a 0 down", x.cellOf(0, 1, 2), 0);
        due("passed on to the right", x.cellOf(0, 1, 1), 0);
        due("adds nothing", x.cellOf(1, 0, 0), 0);
        due("but met it", x.cellOf(1, 0, 5), 1);
        due("and sends it on", x.cellOf(1, 0, 1), 4);
        due("and down", x.cellOf(1, 0, 2), 6);
        x.tick(1);
        due("nothing behind the last entry", x.cellOf(0, 0, 1), NOT_FOUND);
        due("nothing behind the last entry", x.cellOf(0, 0, 2), NOT_FOUND);
        due("skewed", x.cellOf(1, 1, 5), 1);
        due("4 times 0", x.cellOf(1, 1, 0), 0);
        x.tick(1);
        due("sends nothing more", x.cellOf(0, 1, 2), NOT_FOUND);
        due("drain", x.drain(), 4);
        due("result(0, 0)", x.result(0, 0, 0), 36);
        due("result(0, 1)", x.result(0, 1, 0), 0);
        due("result(1, 0)", x.result(1, 0, 0), 0);
        due("result(1, 1)", x.result(1, 1, 0), 0);
        due("wrong", x.count(12), 3);
    }

    static void result() {
        SkewedSquare x = new SkewedSquare();
        Given.readLeftAndRight(x, "99,99,99,99,99,99", "99;99;99;99;99;99");
        due("due 2", x.result(0, 0, 2), INVALID);
        due("due -1", x.result(0, 0, -1), INVALID);
        due("row 1", x.result(1, 0, 0), INVALID);
        due("column 1", x.result(0, 1, 1), INVALID);
        due("row -1", x.result(-1, 0, 0), INVALID);
        due("column -1", x.result(0, -1, 0), INVALID);
        due("unknown", x.result(0, 0, 0), NOT_FOUND);
        due("what is due", x.result(0, 0, 1), 58806);
        x.fault(0, 0, 2);
        x.all();
        due("known", x.result(0, 0, 0), 117612);
        due("what is due", x.result(0, 0, 1), 58806);
        x.begin(0, 0);
        due("at work", x.result(0, 0, 0), 117612);
    }

    static void count() {
        SkewedSquare x = new SkewedSquare();
        due("count(-1)", x.count(-1), INVALID);
        due("count(16)", x.count(16), INVALID);
        due("far", x.count(LEAST), INVALID);
        x.side(3);
        x.shape(4, 5, 6);
        x.left(3, 0, 1);
        x.right(0, 5, 2);
        x.fault(0, 2, 1);
        x.leave(1);
        x.all();
        x.type('7');
        counts("all", x, 3, 4, 5, 6, 4, 1, 0, NOT_FOUND, NOT_FOUND, NOT_FOUND, NOT_FOUND, 24, 0, 1, 4, 1);
        x.fault(0, 3, 1);
        x.begin(1, 1);
        x.tick(2);
        counts("at work", x, 3, 4, 5, 6, 4, 1, 1, 1, 1, 2, 5, 24, 0, 2, 4, 1);
        x.tick(5);
        due("at work, known ones are not wrong", x.count(12), 0);
        due("done", x.count(10), 0);
        x.drain();
        counts("drained", x, 3, 4, 5, 6, 4, 1, 0, NOT_FOUND, NOT_FOUND, NOT_FOUND, NOT_FOUND, 24, 1, 2, 4, 1);
    }

    static void suspects() {
        SkewedSquare x = new SkewedSquare();
        Given.readLeftAndRight(x, "1,2;3,4;5,6", "1,2,3;4,5,6");
        due("which 2", x.suspects(2), INVALID);
        due("which -1", x.suspects(-1), INVALID);
        due("rows, nothing known", x.suspects(0), 0);
        due("columns, nothing known", x.suspects(1), 0);
        x.fault(0, 0, 1);
        Given.doTile(x, 0, 0);
        due("rows not whole", x.suspects(0), 0);
        due("columns not whole", x.suspects(1), 0);
        Given.doTile(x, 1, 0);
        due("rows not whole", x.suspects(0), 0);
        due("a column that is whole", x.suspects(1), 1);
        Given.doTile(x, 0, 1);
        due("a row that is whole", x.suspects(0), 1);
        Given.doTile(x, 1, 1);
        due("rows", x.suspects(0), 5);
        due("columns", x.suspects(1), 5);
        x.fault(0, 0, 0);
        x.all();
        due("rows, sound", x.suspects(0), 0);
        due("columns, sound", x.suspects(1), 0);
    }

    static void suspectsMissWhatCancels() {
        SkewedSquare x = new SkewedSquare();
        Given.readLeftAndRight(x, "1", "3,-3");
        x.fault(0, 0, 1);
        x.fault(0, 1, 1);
        x.all();
        due("wrong", x.count(12), 2);
        due("the row's sum is right", x.suspects(0), 0);
        due("both columns", x.suspects(1), 3);
    }

    static void wouldBeWrong() {
        SkewedSquare x = new SkewedSquare();
        Given.readLeftAndRight(x, "1,2;3,4", "5,6;7,8");
        due("column 3", x.wouldBeWrong(3), INVALID);
        due("column -1", x.wouldBeWrong(-1), INVALID);
        due("far", x.wouldBeWrong(MOST), INVALID);
        x.fault(0, 0, 3);
        x.fault(1, 2, 1);
        int states = x.count(14);
        due("without 0", x.wouldBeWrong(0), 1);
        due("without 1", x.wouldBeWrong(1), 2);
        due("without 2", x.wouldBeWrong(2), 1);
        due("nothing changed", x.count(14), states);
        due("nothing known", x.count(11), 0);
        due("the left out one stays", x.count(5), 2);
        x.begin(0, 0);
        x.tick(2);
        due("at work", x.wouldBeWrong(1), 2);
        due("the tile stays", x.count(9), 2);
        due("the cells stay", x.cellOf(0, 0, 0), 19);
        x.side(1);
        due("column 2 with side 1", x.wouldBeWrong(2), INVALID);
        x.fault(0, 0, 2);
        due("every tile", x.wouldBeWrong(1), 4);
        due("every tile", x.wouldBeWrong(0), 0);
    }

    static void best() {
        SkewedSquare x = new SkewedSquare();
        Given.readLeftAndRight(x, "1,2;3,4", "5,6;7,8");
        due("all sound", x.best(), 2);
        x.fault(0, 0, 3);
        x.fault(1, 2, 1);
        due("1, 2, 1", x.best(), 2);
        x.fault(0, 2, 1);
        due("2, 3, 1", x.best(), 2);
        x.fault(0, 0, 0);
        due("2, 2, 0", x.best(), 2);
        x.fault(0, 0, 1);
        x.fault(1, 0, 1);
        due("2, 4, 2", x.best(), 2);
        x.fault(0, 1, 1);
        x.fault(0, 2, 0);
        due("2, 3, 3", x.best(), 0);
        x.leave(1);
        x.begin(0, 0);
        due("at work", x.best(), 0);
        due("nothing changed", x.count(5), 1);
        due("still at work", x.count(6), 1);
        x.side(2);
        x.fault(0, 0, 2);
        x.fault(1, 2, 2);
        x.fault(0, 2, 2);
        x.fault(1, 1, 2);
        due("3, 3, 2", x.best(), 2);
        x.fault(0, 1, 2);
        x.fault(0, 2, 0);
        due("3, 2, 3", x.best(), 1);
        x.side(1);
        x.fault(0, 1, 1);
        due("side 1", x.best(), 1);
        x.fault(0, 0, 1);
        due("side 1, both", x.best(), 1);
        x.fault(0, 1, 0);
        due("side 1, the first", x.best(), 0);
    }

    static void undo() {
        SkewedSquare x = new SkewedSquare();
        due("empty", x.undo(), NOT_POSSIBLE);
        for (int value = 1; value <= 6; value++) {
            x.left(0, 0, value);
            due("states", x.count(14), Math.min(value, 4));
        }
        x.type('1');
        for (int left = 3; left >= 0; left--) {
            due("undo", x.undo(), left);
            due("entry", x.entry(0, 0, 0), left + 2);
            due("the text stays", x.count(15), 1);
        }
        due("empty", x.undo(), NOT_POSSIBLE);
        due("the oldest was dropped", x.entry(0, 0, 0), 2);
        x.left(0, 0, 50);
        x.right(0, 0, 60);
        due("undo", x.undo(), 1);
        due("one of them", x.entry(1, 0, 0), 0);
        due("the other", x.entry(0, 0, 0), 50);
        x.leave(1);
        due("undo", x.undo(), 1);
        due("undo", x.undo(), 0);
        due("entry", x.entry(0, 0, 0), 2);
    }

    static void undoOfEachChange() {
        SkewedSquare x = new SkewedSquare();
        Given.readLeftAndRight(x, "1,2;3,4", "5,6;7,8");
        x.fault(1, 1, 2);
        x.leave(0);
        x.all();
        int wrong = x.count(12);
        x.side(4);
        due("side", x.undo(), 3);
        counts("side", x, 2, 2, 2, 2, 1, 0, 0, NOT_FOUND, NOT_FOUND, NOT_FOUND, NOT_FOUND, 4, wrong, 1, 3);
        x.shape(6, 6, 6);
        due("shape", x.undo(), 3);
        due("entry", x.entry(1, 1, 1), 8);
        due("rows", x.count(1), 2);
        due("known", x.count(11), 4);
        x.fault(1, 1, 4);
        due("fault", x.undo(), 3);
        due("kind", x.cellOf(1, 0, 4), 2);
        x.leave(2);
        due("leave", x.undo(), 3);
        due("left out", x.count(5), 0);
        x.begin(0, 0);
        x.tick(2);
        x.tick(2);
        due("tick", x.undo(), 3);
        due("ticks", x.count(9), 2);
        due("a sum", x.cellOf(0, 0, 0), 19);
        due("on its way", x.cellOf(0, 0, 1), 2);
        due("on its way", x.cellOf(0, 0, 2), 7);
        due("products", x.cellOf(0, 0, 5), 2);
        x.tick(2);
        x.drain();
        due("drain", x.undo(), 3);
        due("done again", x.count(10), 0);
        due("tick", x.undo(), 2);
        due("tick", x.undo(), 1);
        due("begun", x.count(9), 0);
        due("begin", x.undo(), 0);
        due("no tile", x.count(6), 0);
        x.left(0, 0, 9);
        due("left", x.undo(), 0);
        due("known again", x.count(11), 4);
        Given.write(x, "1;2;3");
        x.read(0);
        due("read", x.undo(), 0);
        due("rows", x.count(1), 2);
        due("right again", x.entry(1, 1, 1), 8);
        due("known again", x.count(11), 4);
        due("the text stays", x.count(15), 5);
    }

    static void undoBackIntoATile() {
        SkewedSquare x = new SkewedSquare();
        Given.readLeftAndRight(x, "1,2;3,4;5,6", "1,2,3;4,5,6");
        x.begin(0, 0);
        x.tick(2);
        x.side(2);
        x.begin(1, 1);
        due("undo of begin", x.undo(), 3);
        due("no tile", x.count(6), 0);
        due("undo of side", x.undo(), 2);
        counts("back in the tile", x, 2, 3, 2, 3, 4, 2, 1, 0, 0, 2, 2, 0, 0, 0, 2, 11);
        due("a sum", x.cellOf(0, 0, 0), 9);
        due("products", x.cellOf(0, 1, 5), 1);
        due("on its way", x.cellOf(0, 0, 1), 2);
        due("on its way", x.cellOf(0, 0, 2), 4);
        due("goes on", x.tick(20), 0);
        due("every cell", x.drain(), 4);
        due("result(0, 1)", x.result(0, 1, 0), 12);
        due("result(1, 1)", x.result(1, 1, 0), 26);
        due("none is wrong", x.count(12), 0);
    }

    static void type() {
        SkewedSquare x = new SkewedSquare();
        for (int wrong : new int[] {31, 127, -1, 0, 255, 65536 + 48, LEAST, MOST}) {
            due("type(" + wrong + ")", x.type(wrong), INVALID);
        }
        due("type(32)", x.type(32), 1);
        due("type(126)", x.type(126), 2);
        for (int length = 3; length <= 80; length++) {
            due("type(48)", x.type(48), length);
        }
        due("full", x.type(48), LIMIT);
        due("full, wrong", x.type(127), INVALID);
        due("length", x.count(15), 80);
        due("no change", x.count(14), 0);
        due("clear", x.clearText(), 80);
        due("type again", x.type(48), 1);
    }

    static void clearText() {
        SkewedSquare x = Given.withText("1,2");
        due("clear", x.clearText(), 3);
        due("clear again", x.clearText(), 0);
        due("length", x.count(15), 0);
        due("empty text", x.textFault(0), 0);
        due("no change", x.count(14), 0);
        x.type('4');
        due("no fault", x.textFault(0), NOT_FOUND);
        due("read", x.read(0), 1);
        due("entry", x.entry(0, 0, 0), 4);
    }

    private static void textIs(String text, int place, int reason) {
        SkewedSquare x = Given.withText(text);
        due("place in '" + text + "'", x.textFault(0), place);
        due("reason in '" + text + "'", x.textFault(1), reason);
        due("read of '" + text + "'", x.read(0) == NOT_POSSIBLE ? 1 : 0, place == NOT_FOUND ? 0 : 1);
    }

    static void textFaultReasonOne() {
        textIs("", 0, 1);
        textIs(" ", 0, 1);
        textIs(",", 0, 1);
        textIs(";", 0, 1);
        textIs("-", 1, 1);
        textIs("--1", 1, 1);
        textIs("1-", 1, 1);
        textIs("-;", 1, 1);
        textIs("-,", 1, 1);
        textIs("100", 2, 1);
        textIs("-100", 3, 1);
        textIs("1,", 2, 1);
        textIs("1;", 2, 1);
        textIs("1,,2", 2, 1);
        textIs("1;;2", 2, 1);
        textIs("1,;2", 2, 1);
        textIs("1;,2", 2, 1);
        textIs("1 ,2", 1, 1);
        textIs("1,+2", 2, 1);
        textIs("1,2;3,-", 7, 1);
        textIs("1,2;-", 5, 1);
        textIs("1:2", 1, 1);
        textIs("1/2", 1, 1);
        textIs("1,2;", 4, 1);
        textIs("1,2,3,4,5,6;x", 12, 1);
        due("textFault(2)", new SkewedSquare().textFault(2), INVALID);
        due("textFault(-1)", new SkewedSquare().textFault(-1), INVALID);
        due("textFault(2) without a fault", Given.withText("1").textFault(2), INVALID);
    }

    static void textFaultReasonTwo() {
        textIs("1,2,3,4,5,6,7", 11, 2);
        textIs("1,2,3,4,5,6,", 11, 2);
        textIs("1,2,3,4,5,6,,", 11, 2);
        textIs("1;2,3", 3, 2);
        textIs("1,2;3,4,", 7, 2);
        textIs("1,2,3,4,5,6;1,2,3,4,5,6,7", 23, 2);
        textIs("1;2;3;4;5;6;7", 11, 2);
        textIs("1;2;3;4;5;6;", 11, 2);
        textIs("1,2;3;4,5", 5, 2);
        textIs("1,2;3;x", 5, 2);
        textIs("1,2;3", 5, 2);
        textIs("1,2,3;4,5,6;7,-89", 17, 2);
        textIs("1,2;1,2;1,2;1,2;1,2;1;", 21, 2);
    }

    static void textWithoutFault() {
        textIs("0", NOT_FOUND, NOT_FOUND);
        textIs("-0", NOT_FOUND, NOT_FOUND);
        textIs("-00", NOT_FOUND, NOT_FOUND);
        textIs("07", NOT_FOUND, NOT_FOUND);
        textIs("-99,99", NOT_FOUND, NOT_FOUND);
        textIs("1;2;3;4;5;6", NOT_FOUND, NOT_FOUND);
        textIs("1,2,3,4,5,6;1,2,3,4,5,6;1,2,3,4,5,6;1,2,3,4,5,6;1,2,3,4,5,6;1,2,3,4,5,-6", NOT_FOUND, NOT_FOUND);
    }

    static void readLeft() {
        SkewedSquare x = new SkewedSquare();
        x.right(0, 0, 5);
        x.right(1, 1, 6);
        x.all();
        Given.write(x, "-1,02;-30,4;0,-0");
        due("read(0)", x.read(0), 6);
        due("the text stays", x.count(15), 16);
        int[][] wants = {{-1, 2}, {-30, 4}, {0, 0}};
        for (int i = 0; i < 3; i++) {
            for (int j = 0; j < 2; j++) {
                due("entry", x.entry(0, i, j), wants[i][j]);
            }
        }
        due("rows", x.count(1), 3);
        due("inner", x.count(2), 2);
        due("columns", x.count(3), 2);
        due("the right one stays", x.entry(1, 0, 0), 5);
        due("the right one stays", x.entry(1, 1, 1), 6);
        due("nothing known", x.count(11), 0);
        x.all();
        due("read(0) again", x.read(0), 6);
        due("nothing known", x.count(11), 0);
        due("the right one stays", x.entry(1, 1, 1), 6);
        Given.write(x, "7");
        due("another inner length", x.read(0), 1);
        due("rows", x.count(1), 1);
        due("inner", x.count(2), 1);
        due("columns", x.count(3), 2);
        due("the right one is 0", x.entry(1, 0, 0), 0);
        due("the right one is short", x.entry(1, 1, 0), INVALID);
        Given.write(x, "1,2,3");
        due("longer again", x.read(0), 3);
        due("the right one is 0", x.entry(1, 1, 1), 0);
        due("the right one is long", x.entry(1, 2, 1), 0);
    }

    static void readRight() {
        SkewedSquare x = new SkewedSquare();
        x.left(0, 0, 5);
        x.left(1, 1, 6);
        x.fault(0, 0, 1);
        x.leave(0);
        x.all();
        Given.write(x, "1,2,3;4,5,6");
        due("read(1)", x.read(1), 6);
        due("rows", x.count(1), 2);
        due("inner", x.count(2), 2);
        due("columns", x.count(3), 3);
        due("tiles", x.count(4), 2);
        due("the left one stays", x.entry(0, 1, 1), 6);
        due("entry", x.entry(1, 1, 2), 6);
        due("nothing known", x.count(11), 0);
        due("faults stay", x.count(13), 1);
        due("the left out one stays", x.count(5), 0);
        Given.write(x, "1,2;3,4;5,-6");
        due("another inner length", x.read(1), 6);
        due("inner", x.count(2), 3);
        due("columns", x.count(3), 2);
        due("rows", x.count(1), 2);
        due("the left one is 0", x.entry(0, 1, 1), 0);
        due("the left one is long", x.entry(0, 0, 2), 0);
        due("entry", x.entry(1, 2, 1), -6);
        x.left(0, 2, 7);
        Given.write(x, "1,2;3,4;5,6");
        due("the same inner length", x.read(1), 6);
        due("the left one stays", x.entry(0, 0, 2), 7);
    }

    static void readRefused() {
        SkewedSquare x = Given.withText("1,2;3,4");
        due("read(2)", x.read(2), INVALID);
        due("read(-1)", x.read(-1), INVALID);
        x.begin(0, 0);
        due("at work", x.read(0), NOT_POSSIBLE);
        due("at work, wrong", x.read(2), INVALID);
        x.tick(20);
        due("at work, done", x.read(1), NOT_POSSIBLE);
        x.drain();
        due("drained", x.read(1), 4);
        x.type(';');
        int states = x.count(14);
        due("a fault", x.read(1), NOT_POSSIBLE);
        due("a fault, wrong", x.read(7), INVALID);
        due("nothing changed", x.count(14), states);
        due("entries stay", x.entry(1, 1, 1), 4);
    }

    static void orderOfErrors() {
        SkewedSquare x = new SkewedSquare();
        due("cell: wrong row before no tile", x.cellOf(2, 0, 1), INVALID);
        due("cell: no tile before nothing", x.cellOf(0, 0, 1), NOT_POSSIBLE);
        x.begin(0, 0);
        due("cell: nothing", x.cellOf(0, 0, 1), NOT_FOUND);
        due("result: wrong before unknown", x.result(0, 2, 0), INVALID);
        due("textFault: wrong before none", Given.withText("1").textFault(3), INVALID);
    }

    static void errorsChangeNothing() {
        SkewedSquare x = new SkewedSquare();
        Given.readLeftAndRight(x, "1,2;3,4", "5,6;7,8");
        x.all();
        x.begin(0, 0);
        x.tick(1);
        x.side(0);
        x.shape(7, 1, 1);
        x.left(0, 0, 9);
        x.right(0, 0, 9);
        x.fault(0, 0, 1);
        x.leave(0);
        x.begin(0, 0);
        x.tick(0);
        x.drain();
        x.all();
        x.read(0);
        x.type(31);
        counts("errors", x, 2, 2, 2, 2, 1, 2, 1, 0, 0, 1, 3, 4, 0, 0, 4, 7);
        due("a sum", x.cellOf(0, 0, 0), 5);
        due("left", x.entry(0, 0, 0), 1);
        due("right", x.entry(1, 0, 0), 5);
    }
}
