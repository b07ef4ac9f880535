import java.util.function.IntUnaryOperator;

// Promises 1 to 19: a test for each argument's range, and for each sentence that names an edge.
public final class RangesTest {
    private static final int INVALID = Check.INVALID;
    private static final int NOT_POSSIBLE = Check.NOT_POSSIBLE;
    private static final int NOT_FOUND = Check.NOT_FOUND;

    private RangesTest() {
    }

    public static void main(String[] args) {
        Check.runTestsOf(RangesTest.class);
    }

    private static void due(String what, long got, long want) {
        Check.due(what, got, want);
    }

    // The call makes an object of its own for each argument.
    private static void dueRange(String name, int from, int to, IntUnaryOperator call) {
        for (int argument = from; argument <= to; argument++) {
            int answer = call.applyAsInt(argument);
            boolean in = answer != INVALID && answer != NOT_POSSIBLE && answer != NOT_FOUND;
            Check.truth(name + " " + argument + " is taken, but " + answer, in);
        }
        for (int argument : new int[] {from - 1, to + 1, from - 100, to + 100, Check.LEAST, Check.MOST}) {
            due(name + " " + argument, call.applyAsInt(argument), INVALID);
        }
    }

    private static SkewedSquare shaped(int n, int rows, int inner, int columns) {
        SkewedSquare x = new SkewedSquare();
        x.side(n);
        x.shape(rows, inner, columns);
        return x;
    }

    private static SkewedSquare begun(int n) {
        SkewedSquare x = shaped(n, n, 1, n);
        x.begin(0, 0);
        return x;
    }

    // ---- promise 1

    static void newObjectHasTheSide2() {
        due("side", new SkewedSquare().count(0), 2);
    }

    static void newObjectHasNoTile() {
        SkewedSquare x = new SkewedSquare();
        due("begun", x.count(6), 0);
        due("tick", x.tick(1), NOT_POSSIBLE);
        due("a cell", x.cellOf(0, 0, 0), NOT_POSSIBLE);
        due("begin", x.begin(0, 0), 4);
    }

    static void objectsHaveNothingInCommon() {
        SkewedSquare x = Given.atWork();
        SkewedSquare y = new SkewedSquare();
        due("entry", y.entry(0, 0, 0), 0);
        due("text", y.count(15), 0);
        due("states", y.count(14), 0);
        y.side(3);
        due("the other one's side", x.count(0), 2);
        due("the other one's ticks", x.count(9), 2);
    }

    // ---- promise 2

    static void rangeOfSide() {
        dueRange("n", 1, 4, n -> new SkewedSquare().side(n));
    }

    static void sideReturnsWhatItWas() {
        SkewedSquare x = new SkewedSquare();
        int was = 2;
        for (int n : new int[] {1, 4, 4, 3, 2, 1, 1}) {
            due("side(" + n + ")", x.side(n), was);
            was = n;
        }
    }

    static void sideMakesAllCellsSound() {
        for (int n = 1; n <= 4; n++) {
            SkewedSquare x = new SkewedSquare();
            x.side(4);
            for (int row = 0; row < 4; row++) {
                for (int column = 0; column <= 4; column++) {
                    x.fault(row, column, 1);
                }
            }
            x.side(n);
            due("side " + n, x.count(13), 0);
            x.side(4);
            due("and 4 again", x.count(13), 0);
        }
    }

    static void sameSideMakesAllCellsSoundToo() {
        SkewedSquare x = new SkewedSquare();
        x.fault(0, 0, 1);
        x.fault(1, 2, 1);
        x.side(2);
        due("faulty", x.count(13), 0);
    }

    static void sideLeavesTheLastColumnOut() {
        SkewedSquare x = new SkewedSquare();
        x.leave(0);
        x.side(2);
        due("the same side", x.count(5), 2);
        x.leave(1);
        x.side(4);
        due("a greater one", x.count(5), 4);
        x.leave(1);
        x.side(1);
        due("a smaller one", x.count(5), 1);
    }

    static void noTileIsBegunBehindSide() {
        SkewedSquare x = Given.atWork();
        due("at work", x.side(2), 2);
        due("begun", x.count(6), 0);
        SkewedSquare y = Given.tileDone();
        due("done", y.side(3), 2);
        due("begun", y.count(6), 0);
        due("drain", y.drain(), NOT_POSSIBLE);
    }

    static void sideLeavesTheEntries() {
        SkewedSquare x = Given.small();
        x.side(4);
        due("left", x.entry(0, 1, 1), 4);
        due("right", x.entry(1, 1, 1), 8);
        due("due", x.result(1, 1, 1), 50);
    }

    // ---- promise 3

    static void rangeOfRows() {
        dueRange("rows", 1, 6, rows -> new SkewedSquare().shape(rows, 6, 1));
    }

    static void rangeOfInnerLength() {
        dueRange("inner", 1, 6, inner -> new SkewedSquare().shape(1, inner, 6));
    }

    static void rangeOfColumns() {
        dueRange("columns", 1, 6, columns -> new SkewedSquare().shape(6, 1, columns));
    }

    static void shapeMakesAllEntries0() {
        SkewedSquare x = shaped(2, 6, 6, 6);
        for (int i = 0; i < 6; i++) {
            for (int j = 0; j < 6; j++) {
                x.left(i, j, 7);
                x.right(i, j, 7);
            }
        }
        x.shape(6, 6, 6);
        for (int i = 0; i < 6; i++) {
            for (int j = 0; j < 6; j++) {
                due("left(" + i + ", " + j + ")", x.entry(0, i, j), 0);
                due("right(" + i + ", " + j + ")", x.entry(1, i, j), 0);
            }
        }
    }

    static void entriesOfAGreaterShapeAre0Too() {
        SkewedSquare x = Given.small();
        x.shape(1, 1, 1);
        x.shape(2, 2, 2);
        for (int i = 0; i < 4; i++) {
            due("left", x.entry(0, i / 2, i % 2), 0);
            due("right", x.entry(1, i / 2, i % 2), 0);
        }
    }

    static void noTileIsBegunBehindShape() {
        SkewedSquare x = Given.atWork();
        due("at work", x.shape(2, 2, 2), 1);
        due("begun", x.count(6), 0);
        due("tick", x.tick(1), NOT_POSSIBLE);
    }

    static void shapeReturnsHowManyTiles() {
        int[][] shapes = {{1, 1, 1}, {2, 2, 1}, {2, 3, 2}, {3, 3, 4}, {4, 5, 6}, {6, 6, 9}};
        for (int[] shape : shapes) {
            SkewedSquare x = new SkewedSquare();
            due("side 2", x.shape(shape[0], 1, shape[1]), shape[2]);
            due("count(4)", x.count(4), shape[2]);
        }
        SkewedSquare y = new SkewedSquare();
        y.side(4);
        due("side 4, 4 by 4", y.shape(4, 6, 4), 1);
        due("side 4, 5 by 4", y.shape(5, 6, 4), 2);
        due("side 4, 5 by 5", y.shape(5, 6, 5), 4);
        y.side(3);
        due("side 3, 3 by 6", y.shape(3, 6, 6), 2);
        due("side 3, 4 by 6", y.shape(4, 6, 6), 4);
        y.side(1);
        due("side 1, 6 by 6", y.shape(6, 6, 6), 36);
    }

    static void shapeLeavesTheSquare() {
        SkewedSquare x = new SkewedSquare();
        x.side(3);
        x.fault(2, 3, 2);
        x.leave(1);
        x.shape(6, 5, 4);
        due("side", x.count(0), 3);
        due("faulty", x.count(13), 1);
        due("left out", x.count(5), 1);
    }

    // ---- promise 4

    static void rangeOfRowInLeft() {
        dueRange("row", 0, 2, row -> shaped(2, 3, 5, 4).left(row, 4, 1));
    }

    static void rangeOfPlaceInLeft() {
        dueRange("place", 0, 4, place -> shaped(2, 3, 5, 4).left(2, place, 1));
    }

    static void rangeOfValueInLeft() {
        dueRange("value", -99, 99, value -> new SkewedSquare().left(1, 1, value));
    }

    static void leftReturnsWhatItWas() {
        SkewedSquare x = new SkewedSquare();
        due("at first", x.left(0, 1, -5), 0);
        due("-5", x.left(0, 1, 99), -5);
        due("99", x.left(0, 1, 99), 99);
        due("99 still", x.left(0, 1, 0), 99);
        due("0", x.left(0, 1, 1), 0);
    }

    static void leftSetsOneEntry() {
        for (int cell = 0; cell < 15; cell++) {
            SkewedSquare x = shaped(2, 3, 5, 4);
            x.left(cell / 5, cell % 5, 8);
            for (int other = 0; other < 15; other++) {
                due("left", x.entry(0, other / 5, other % 5), other == cell ? 8 : 0);
            }
            for (int other = 0; other < 20; other++) {
                due("right", x.entry(1, other / 4, other % 4), 0);
            }
        }
    }

    // ---- promise 5

    static void rangeOfPlaceInRight() {
        dueRange("place", 0, 4, place -> shaped(2, 3, 5, 4).right(place, 3, 1));
    }

    static void rangeOfColumnInRight() {
        dueRange("column", 0, 3, column -> shaped(2, 3, 5, 4).right(4, column, 1));
    }

    static void rangeOfValueInRight() {
        dueRange("value", -99, 99, value -> new SkewedSquare().right(1, 1, value));
    }

    static void rightReturnsWhatItWas() {
        SkewedSquare x = new SkewedSquare();
        due("at first", x.right(0, 1, -5), 0);
        due("-5", x.right(0, 1, 99), -5);
        due("99", x.right(0, 1, 99), 99);
        due("99 still", x.right(0, 1, 0), 99);
        due("0", x.right(0, 1, 1), 0);
    }

    static void rightSetsOneEntry() {
        for (int cell = 0; cell < 20; cell++) {
            SkewedSquare x = shaped(2, 3, 5, 4);
            x.right(cell / 4, cell % 4, 8);
            for (int other = 0; other < 20; other++) {
                due("right", x.entry(1, other / 4, other % 4), other == cell ? 8 : 0);
            }
            for (int other = 0; other < 15; other++) {
                due("left", x.entry(0, other / 5, other % 5), 0);
            }
        }
    }

    // ---- promise 6

    static void rangeOfRowInFault() {
        for (int n = 1; n <= 4; n++) {
            int side = n;
            dueRange("side " + n + ", row", 0, n - 1, row -> shaped(side, 2, 2, 2).fault(row, side, 1));
        }
    }

    static void rangeOfColumnInFault() {
        for (int n = 1; n <= 4; n++) {
            int side = n;
            dueRange("side " + n + ", column", 0, n, column -> shaped(side, 2, 2, 2).fault(side - 1, column, 1));
        }
    }

    static void rangeOfKind() {
        dueRange("kind", 0, 4, kind -> new SkewedSquare().fault(1, 2, kind));
    }

    static void faultReturnsWhatItWas() {
        SkewedSquare x = new SkewedSquare();
        int was = 0;
        for (int kind : new int[] {1, 2, 3, 4, 4, 0, 0, 4, 1}) {
            due("kind " + kind, x.fault(1, 0, kind), was);
            was = kind;
        }
    }

    static void faultMakesOneCellFaulty() {
        for (int cell = 0; cell < 20; cell++) {
            SkewedSquare x = shaped(4, 1, 1, 1);
            x.fault(cell / 5, cell % 5, 3);
            due("faulty", x.count(13), 1);
            for (int other = 0; other < 20; other++) {
                due("what it was", x.fault(other / 5, other % 5, 3), other == cell ? 3 : 0);
            }
        }
    }

    static void leftOutCellCanBeFaulty() {
        SkewedSquare x = new SkewedSquare();
        due("sound", x.fault(0, 2, 4), 0);
        due("it counts", x.count(13), 1);
        due("faulty", x.fault(0, 2, 0), 4);
    }

    // ---- promise 7

    static void rangeOfLeave() {
        for (int n = 1; n <= 4; n++) {
            int side = n;
            dueRange("side " + n + ", column", 0, n, column -> shaped(side, 2, 2, 2).leave(column));
        }
    }

    static void leaveReturnsWhichOneWasLeftOut() {
        SkewedSquare x = new SkewedSquare();
        int was = 2;
        for (int column : new int[] {0, 1, 1, 2, 0}) {
            due("leave(" + column + ")", x.leave(column), was);
            due("count(5)", x.count(5), column);
            was = column;
        }
    }

    // ---- promise 8

    static void rangeOfRowInBegin() {
        dueRange("row", 0, 2, row -> shaped(2, 5, 1, 3).begin(row, 1));
        dueRange("row of one", 0, 0, row -> shaped(4, 4, 1, 6).begin(row, 1));
    }

    static void rangeOfColumnInBegin() {
        dueRange("column", 0, 1, column -> shaped(2, 5, 1, 3).begin(2, column));
        dueRange("column of one", 0, 0, column -> shaped(3, 6, 1, 3).begin(1, column));
    }

    static void beginReturnsHowManyTicks() {
        due("the fewest", shaped(1, 6, 1, 6).begin(5, 5), 1);
        due("the most", shaped(4, 6, 6, 6).begin(0, 0), 12);
        due("fewer rows", shaped(4, 5, 6, 6).begin(1, 0), 9);
        due("fewer columns", shaped(4, 6, 6, 5).begin(0, 1), 9);
        due("fewer of both", shaped(4, 5, 6, 5).begin(1, 1), 6);
    }

    // ---- promise 9

    static void rangeOfMany() {
        dueRange("many", 1, 20, many -> begun(4).tick(many));
    }

    static void tickReturnsHowManyAreLeft() {
        for (int many = 1; many <= 20; many++) {
            SkewedSquare x = shaped(4, 4, 6, 4);
            x.begin(0, 0);
            due("tick(" + many + ") of 12", x.tick(many), Math.max(0, 12 - many));
            due("so far", x.count(9), Math.min(12, many));
        }
    }

    static void tickOfATileOfOneTick() {
        SkewedSquare x = begun(1);
        due("it needs 1", x.count(10), 1);
        due("tick", x.tick(1), 0);
        due("done", x.tick(1), NOT_POSSIBLE);
    }

    // ---- promise 10

    static void drainReturnsHowManyAreKnown() {
        SkewedSquare x = Given.fourTiles();
        int[][] tiles = {{0, 0, 4}, {1, 0, 6}, {0, 1, 8}, {1, 1, 9}, {1, 1, 9}, {0, 0, 9}};
        for (int[] tile : tiles) {
            x.begin(tile[0], tile[1]);
            x.tick(20);
            due("drain", x.drain(), tile[2]);
            due("count(11)", x.count(11), tile[2]);
        }
    }

    // ---- promise 11

    static void allReturnsHowManyTicks() {
        due("four tiles", Given.fourTiles().all(), 12);
        due("one tile", Given.small().all(), 4);
        due("one tile of one tick", shaped(1, 1, 1, 1).all(), 1);
        due("the most tiles", shaped(1, 6, 6, 6).all(), 216);
        due("the greatest tiles", shaped(4, 6, 6, 6).all(), 40);
    }

    static void allDoesAllTiles() {
        for (int n = 1; n <= 4; n++) {
            SkewedSquare x = Given.matrices(n, "1,2;3,4;5,6;7,8;9,10", "1,2,3,4,5,6;-1,-2,-3,-4,-5,-6");
            x.all();
            due("known", x.count(11), 30);
            due("wrong", x.count(12), 0);
            due("the last one", x.result(4, 5, 0), -6);
        }
    }

    static void allIsTheSameAsOneAfterTheOther() {
        SkewedSquare x = Given.fourTiles();
        SkewedSquare y = Given.fourTiles();
        x.fault(0, 1, 3);
        y.fault(0, 1, 3);
        x.fault(1, 0, 2);
        y.fault(1, 0, 2);
        x.leave(2);
        y.leave(2);
        x.all();
        for (int tile = 0; tile < 4; tile++) {
            Given.doTile(y, tile / 2, tile % 2);
        }
        Look.dueSame("all", Look.at(x), Look.at(y), false);
    }

    static void allIsOneChange() {
        SkewedSquare x = new SkewedSquare();
        x.shape(5, 2, 5);
        x.all();
        due("states", x.count(14), 2);
        due("undo", x.undo(), 1);
        due("none known", x.count(11), 0);
    }

    static void allOverwritesWhatIsKnown() {
        SkewedSquare x = Given.small();
        x.fault(0, 0, 1);
        x.all();
        due("wrong", x.count(12), 1);
        x.fault(0, 0, 0);
        x.all();
        due("right", x.count(12), 0);
    }

    static void noTileIsBegunBehindAll() {
        SkewedSquare x = Given.small();
        x.all();
        due("begun", x.count(6), 0);
        due("begin", x.begin(0, 0), 4);
    }

    // ---- promise 12

    static void rangeOfWhichInEntry() {
        dueRange("which", 0, 1, which -> new SkewedSquare().entry(which, 1, 1));
    }

    static void rangeOfRowInEntry() {
        dueRange("row of the left one", 0, 2, row -> shaped(2, 3, 5, 4).entry(0, row, 4));
        dueRange("row of the right one", 0, 4, row -> shaped(2, 3, 5, 4).entry(1, row, 3));
    }

    static void rangeOfColumnInEntry() {
        dueRange("column of the left one", 0, 4, column -> shaped(2, 3, 5, 4).entry(0, 2, column));
        dueRange("column of the right one", 0, 3, column -> shaped(2, 3, 5, 4).entry(1, 4, column));
    }

    static void entryReturnsTheEntry() {
        SkewedSquare x = Given.matrices(2, "1,-2,3;4,5,-99", "7,8;9,10;11,99");
        due("left", x.entry(0, 0, 1), -2);
        due("left's last", x.entry(0, 1, 2), -99);
        due("right", x.entry(1, 1, 0), 9);
        due("right's last", x.entry(1, 2, 1), 99);
    }

    // ---- promise 13

    static void rangeOfRowInCellOf() {
        for (int n = 1; n <= 4; n++) {
            int side = n;
            dueRange("side " + n + ", row", 0, n - 1, row -> begun(side).cellOf(row, side - 1, 0));
        }
    }

    static void rangeOfColumnInCellOf() {
        for (int n = 1; n <= 4; n++) {
            int side = n;
            dueRange("side " + n + ", column", 0, n - 1, column -> begun(side).cellOf(side - 1, column, 0));
        }
    }

    static void rangeOfWhatInCellOf() {
        dueRange("what", 0, 5, what -> Given.atWork().cellOf(0, 0, what));
    }

    static void rangesOfCellOfWithoutATile() {
        for (int what = 3; what <= 4; what++) {
            int number = what;
            dueRange("row", 0, 1, row -> new SkewedSquare().cellOf(row, 0, number));
            dueRange("column", 0, 1, column -> new SkewedSquare().cellOf(0, column, number));
        }
    }

    static void cellOfIsByUseNotByPlace() {
        SkewedSquare x = Given.small();
        x.leave(0);
        x.fault(0, 1, 1);
        x.fault(1, 2, 2);
        x.begin(0, 0);
        x.tick(4);
        due("use 0: its column", x.cellOf(0, 0, 3), 1);
        due("use 0: its fault", x.cellOf(0, 0, 4), 1);
        due("use 0: its sum", x.cellOf(0, 0, 0), 0);
        due("use 1: its column", x.cellOf(1, 1, 3), 2);
        due("use 1: its fault", x.cellOf(1, 1, 4), 2);
        due("use 1: its sum", x.cellOf(1, 1, 0), 100);
    }

    static void cellOfTellsEachKind() {
        for (int kind = 0; kind <= 4; kind++) {
            SkewedSquare x = new SkewedSquare();
            x.fault(1, 1, kind);
            due("kind", x.cellOf(1, 1, 4), kind);
            due("the others", x.cellOf(1, 0, 4), 0);
        }
    }

    static void cellMeetsAProductATickInItsTime() {
        SkewedSquare x = Given.matrices(2, "1,2,3;4,5,6", "1,2;3,4;5,6");
        x.begin(0, 0);
        int[][] wants = {{1, 0, 0, 0}, {2, 1, 1, 0}, {3, 2, 2, 1}, {3, 3, 3, 2}, {3, 3, 3, 3}};
        for (int[] want : wants) {
            x.tick(1);
            for (int cell = 0; cell < 4; cell++) {
                due("cell " + cell, x.cellOf(cell / 2, cell % 2, 5), want[cell]);
            }
        }
    }

    static void cellOfHasNothingBehindDrainAndAll() {
        SkewedSquare x = Given.tileDone();
        x.drain();
        for (int what : new int[] {0, 1, 2, 5}) {
            due("drained", x.cellOf(0, 0, what), NOT_POSSIBLE);
        }
        x.all();
        for (int what : new int[] {0, 1, 2, 5}) {
            due("all done", x.cellOf(0, 0, what), NOT_POSSIBLE);
        }
    }

    // ---- promise 14

    private static SkewedSquare allDone(int rows, int columns) {
        SkewedSquare x = shaped(2, rows, 1, columns);
        x.all();
        return x;
    }

    static void rangeOfRowInResult() {
        dueRange("row, as known", 0, 4, row -> allDone(5, 3).result(row, 2, 0));
        dueRange("row, as due", 0, 4, row -> shaped(2, 5, 1, 3).result(row, 2, 1));
    }

    static void rangeOfColumnInResult() {
        dueRange("column, as known", 0, 2, column -> allDone(5, 3).result(4, column, 0));
        dueRange("column, as due", 0, 2, column -> shaped(2, 5, 1, 3).result(4, column, 1));
    }

    static void rangeOfDueInResult() {
        dueRange("due", 0, 1, which -> allDone(1, 1).result(0, 0, which));
    }

    static void unknownResultIsNotFound() {
        SkewedSquare x = Given.fourTiles();
        Given.doTile(x, 0, 0);
        due("known", x.result(1, 1, 0), 26);
        due("unknown", x.result(1, 2, 0), NOT_FOUND);
        due("unknown", x.result(2, 1, 0), NOT_FOUND);
        due("due", x.result(2, 1, 1), 40);
    }

    static void knownResult0IsFound() {
        SkewedSquare x = new SkewedSquare();
        x.all();
        due("0", x.result(0, 0, 0), 0);
        due("known", x.count(11), 4);
    }

    // ---- promise 15

    static void rangeOfWhatInCount() {
        dueRange("what", 0, 15, what -> Given.atWork().count(what));
    }

    static void count7To10AreNotFoundWithoutATile() {
        SkewedSquare x = Given.small();
        for (int what = 0; what <= 15; what++) {
            Check.truth("count(" + what + ")", (x.count(what) == NOT_FOUND) == (what >= 7 && what <= 10));
        }
    }

    static void countOfShapeAndSide() {
        SkewedSquare x = shaped(3, 4, 5, 6);
        due("side", x.count(0), 3);
        due("rows", x.count(1), 4);
        due("inner length", x.count(2), 5);
        due("columns", x.count(3), 6);
        due("tiles", x.count(4), 4);
        due("left out", x.count(5), 3);
    }

    static void countOfTilesFollowsTheSide() {
        SkewedSquare x = shaped(1, 5, 1, 6);
        due("side 1", x.count(4), 30);
        x.side(2);
        due("side 2", x.count(4), 9);
        x.side(3);
        due("side 3", x.count(4), 4);
        x.side(4);
        due("side 4", x.count(4), 4);
    }

    static void countOfTheTile() {
        SkewedSquare x = shaped(2, 5, 3, 6);
        due("none", x.count(6), 0);
        x.begin(2, 1);
        due("begun", x.count(6), 1);
        due("its row", x.count(7), 2);
        due("its column", x.count(8), 1);
        due("its ticks", x.count(9), 0);
        due("ticks left", x.count(10), 4);
        x.tick(3);
        due("its ticks", x.count(9), 3);
        due("ticks left", x.count(10), 1);
        x.tick(1);
        due("its ticks, done", x.count(9), 4);
        due("ticks left, done", x.count(10), 0);
        due("done, it is begun still", x.count(6), 1);
        x.drain();
        due("drained", x.count(6), 0);
    }

    static void countOfKnownAndWrongEntries() {
        SkewedSquare x = Given.fourTiles();
        x.fault(0, 0, 1);
        x.fault(1, 1, 1);
        due("known", x.count(11), 0);
        due("wrong", x.count(12), 0);
        Given.doTile(x, 0, 0);
        due("known", x.count(11), 4);
        due("wrong", x.count(12), 2);
        x.all();
        due("known", x.count(11), 9);
        due("wrong", x.count(12), 5);
    }

    static void countOfFaultyCells() {
        SkewedSquare x = new SkewedSquare();
        for (int cell = 0; cell < 6; cell++) {
            x.fault(cell / 3, cell % 3, 1 + cell % 4);
            due("one more", x.count(13), cell + 1);
        }
        x.leave(0);
        due("whichever is left out", x.count(13), 6);
        x.fault(0, 0, 2);
        due("another kind", x.count(13), 6);
        x.fault(0, 0, 0);
        due("sound", x.count(13), 5);
    }

    static void countOfStatesAndText() {
        SkewedSquare x = new SkewedSquare();
        due("states", x.count(14), 0);
        due("text", x.count(15), 0);
        x.left(0, 0, 1);
        x.type('1');
        x.type('2');
        due("states", x.count(14), 1);
        due("text", x.count(15), 2);
    }

    // ---- promise 16

    static void rangeOfWhichInSuspects() {
        dueRange("which", 0, 1, which -> Given.allKnown().suspects(which));
    }

    static void noneIsSuspectWithoutResults() {
        SkewedSquare x = Given.small();
        x.fault(0, 0, 1);
        due("rows", x.suspects(0), 0);
        due("columns", x.suspects(1), 0);
    }

    static void allCanBeSuspect() {
        SkewedSquare x = Given.matrices(1, "1;2;3;4;5;6", "1,2,3,4,5,6");
        x.fault(0, 0, 2);
        x.all();
        due("rows", x.suspects(0), 63);
        due("columns", x.suspects(1), 63);
    }

    static void eachRowAndColumnHasItsBit() {
        for (int cell = 0; cell < 16; cell++) {
            SkewedSquare x = Given.matrices(4, "1;1;1;1", "1,1,1,1");
            x.fault(cell / 4, cell % 4, 1);
            x.all();
            due("row", x.suspects(0), 1 << cell / 4);
            due("column", x.suspects(1), 1 << cell % 4);
        }
    }

    // ---- promise 17

    static void rangeOfWouldBeWrong() {
        for (int n = 1; n <= 4; n++) {
            int side = n;
            dueRange("side " + n + ", column", 0, n, column -> shaped(side, 2, 2, 2).wouldBeWrong(column));
        }
    }

    private static SkewedSquare withManyFaults() {
        SkewedSquare x = Given.matrices(3, "1,2;3,4;5,6;7,8", "9,8,7,6,5;-1,-2,-3,-4,-5");
        x.fault(0, 0, 3);
        x.fault(1, 1, 1);
        x.fault(0, 2, 4);
        x.fault(2, 3, 2);
        return x;
    }

    static void wouldBeWrongIsWhatIsWrongThen() {
        for (int column = 0; column <= 3; column++) {
            SkewedSquare x = withManyFaults();
            int told = x.wouldBeWrong(column);
            x.leave(column);
            x.all();
            due("without " + column, told, x.count(12));
        }
    }

    static void wouldBeWrongCountsAllTiles() {
        SkewedSquare x = Given.fourTiles();
        x.fault(0, 0, 1);
        due("nothing is known", x.wouldBeWrong(2), 4);
        Given.doTile(x, 0, 0);
        due("one tile is known", x.wouldBeWrong(2), 4);
        due("without the faulty one", x.wouldBeWrong(0), 0);
    }

    static void wouldBeWrongLooksAtFaultsAsTheyAre() {
        SkewedSquare x = Given.allKnown();
        due("sound", x.wouldBeWrong(2), 0);
        x.fault(0, 0, 1);
        due("faulty, the results are right still", x.wouldBeWrong(2), 1);
        x.all();
        x.fault(0, 0, 0);
        due("sound, the results are wrong still", x.wouldBeWrong(2), 0);
        due("known wrong ones", x.count(12), 1);
    }

    static void wouldBeWrongLooksAtMatricesAsTheyAre() {
        SkewedSquare x = new SkewedSquare();
        x.fault(0, 0, 1);
        due("zeros", x.wouldBeWrong(2), 0);
        x.left(0, 1, 1);
        x.right(1, 0, 1);
        due("a product", x.wouldBeWrong(2), 1);
    }

    static void wouldBeWrongTouchesNothing() {
        SkewedSquare x = withManyFaults();
        x.leave(1);
        x.begin(0, 0);
        x.tick(3);
        Look before = Look.at(x);
        for (int column = 0; column <= 3; column++) {
            x.wouldBeWrong(column);
        }
        x.best();
        Look.dueSame("at work", Look.at(x), before, true);
    }

    static void wouldBeWrongAtWorkBeginsAnew() {
        SkewedSquare x = Given.small();
        x.fault(0, 0, 1);
        x.begin(0, 0);
        x.tick(3);
        due("at work", x.wouldBeWrong(2), 1);
        x.tick(1);
        due("done", x.wouldBeWrong(2), 1);
        due("done, without the faulty one", x.wouldBeWrong(0), 0);
    }

    // ---- promise 18

    static void bestOfAllSoundIsTheGreatestColumn() {
        for (int n = 1; n <= 4; n++) {
            SkewedSquare x = shaped(n, 3, 3, 3);
            due("side " + n, x.best(), n);
        }
    }

    static void bestIsTheFaultyColumn() {
        for (int n = 1; n <= 4; n++) {
            for (int column = 0; column <= n; column++) {
                SkewedSquare x = shaped(n, 1, 1, 4);
                x.left(0, 0, 1);
                for (int j = 0; j < 4; j++) {
                    x.right(0, j, 1);
                }
                x.fault(0, column, 1);
                due("side " + n, x.best(), column);
            }
        }
    }

    static void bestOfSeveralIsTheGreatestOne() {
        SkewedSquare x = Given.matrices(3, "1;1;1", "1,1,1");
        x.fault(0, 0, 1);
        x.fault(1, 1, 1);
        due("1 is wrong without 0 or 1, 2 without 2 or 3", x.best(), 1);
        x.fault(0, 2, 1);
        x.fault(1, 3, 1);
        due("each has one", x.best(), 3);
    }

    static void bestIsTheOneWithTheFewestWrong() {
        SkewedSquare x = Given.matrices(2, "1;1", "1,1");
        x.fault(0, 0, 1);
        x.fault(1, 0, 1);
        x.fault(0, 2, 1);
        due("1 of column 2 is wrong without 0", x.best(), 0);
        due("without 0", x.wouldBeWrong(0), 1);
        due("without 1", x.wouldBeWrong(1), 3);
        due("without 2", x.wouldBeWrong(2), 2);
    }

    static void bestDoesNotHangOnWhatIsLeftOut() {
        SkewedSquare x = withManyFaults();
        int best = x.best();
        for (int column = 0; column <= 3; column++) {
            x.leave(column);
            due("without " + column, x.best(), best);
            due("what is left out stays", x.count(5), column);
        }
    }

    // ---- promise 19

    static void undoReturnsHowManyAreLeft() {
        SkewedSquare x = new SkewedSquare();
        x.left(0, 0, 1);
        due("of 1", x.undo(), 0);
        due("of 0", x.undo(), NOT_POSSIBLE);
        for (int i = 0; i < 9; i++) {
            x.leave(0);
        }
        for (int left = 3; left >= 0; left--) {
            due("of " + (left + 1), x.undo(), left);
        }
        due("of 0", x.undo(), NOT_POSSIBLE);
    }

    static void undoRestoresTheSquare() {
        SkewedSquare x = shaped(3, 2, 2, 2);
        x.fault(2, 3, 4);
        x.leave(0);
        x.side(1);
        due("undo", x.undo(), 3);
        due("side", x.count(0), 3);
        due("left out", x.count(5), 0);
        due("fault", x.cellOf(2, 2, 4), 4);
    }

    static void undoRestoresShapeEntriesAndResults() {
        SkewedSquare x = Given.allKnown();
        x.shape(6, 6, 6);
        x.undo();
        due("rows", x.count(1), 2);
        due("behind them", x.result(2, 0, 0), INVALID);
        due("an entry", x.entry(1, 1, 0), 7);
        due("a result", x.result(1, 0, 0), 43);
    }

    static void undoRestoresTheTileAndItsCells() {
        SkewedSquare x = Given.tileDone();
        x.drain();
        x.undo();
        due("done", x.count(10), 0);
        due("nothing is known", x.count(11), 0);
        due("a sum", x.cellOf(1, 1, 0), 50);
        due("to the right", x.cellOf(1, 1, 1), 4);
        due("down", x.cellOf(1, 1, 2), 8);
        due("products", x.cellOf(1, 1, 5), 2);
        due("drain again", x.drain(), 4);
    }

    private static SkewedSquare shapeOfFourTiles() {
        return Given.matrices(3, "1,2;3,4;5,6;7,8", "1,2,3,4,5;-1,-2,-3,-4,-5");
    }

    // Both tiles differ in all that a tile has: its row, its column, its rows and its columns.
    static void undoRestoresATileBehindAnotherOne() {
        SkewedSquare x = shapeOfFourTiles();
        x.begin(0, 1);
        x.tick(2);
        Look before = Look.at(x);
        x.side(3);
        x.begin(1, 0);
        due("undo of begin", x.undo(), 3);
        due("undo of side", x.undo(), 2);
        due("its row", x.count(7), 0);
        due("its column", x.count(8), 1);
        due("its ticks", x.count(9), 2);
        due("ticks left", x.count(10), 3);
        Look.dueSame("all of it", Look.at(x), before, false);
        due("tick", x.tick(20), 0);
        due("drain", x.drain(), 6);
        due("its first entry", x.result(0, 3, 0), -4);
        due("its last entry", x.result(2, 4, 0), -5);
        due("none before it", x.result(0, 2, 0), NOT_FOUND);
        due("none below it", x.result(3, 3, 0), NOT_FOUND);
    }

    static void undoRestoresATileBehindASmallerOne() {
        SkewedSquare x = shapeOfFourTiles();
        x.begin(0, 0);
        x.tick(2);
        x.side(3);
        x.begin(1, 1);
        x.undo();
        x.undo();
        due("ticks left", x.count(10), 4);
        due("tick", x.tick(4), 0);
        due("drain", x.drain(), 9);
        due("none is wrong", x.count(12), 0);
        due("its last entry", x.result(2, 2, 0), -3);
    }
}
