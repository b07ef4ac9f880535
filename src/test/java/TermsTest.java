// The section "Terms", but for texts, changes and errors: a test for each sentence.
public final class TermsTest {
    private static final int INVALID = Check.INVALID;
    private static final int NOT_POSSIBLE = Check.NOT_POSSIBLE;
    private static final int NOT_FOUND = Check.NOT_FOUND;

    private TermsTest() {
    }

    public static void main(String[] args) {
        Check.runTestsOf(TermsTest.class);
    }

    private static void due(String what, long got, long want) {
        Check.due(what, got, want);
    }

    // ---- matrices

    static void rowsAreOneToSix() {
        SkewedSquare x = new SkewedSquare();
        due("0", x.shape(0, 2, 2), INVALID);
        due("1", x.shape(1, 2, 2), 1);
        due("1 there", x.count(1), 1);
        due("6", x.shape(6, 2, 2), 3);
        due("6 there", x.count(1), 6);
        due("7", x.shape(7, 2, 2), INVALID);
        due("6 still", x.count(1), 6);
    }

    static void innerLengthIsOneToSix() {
        SkewedSquare x = new SkewedSquare();
        due("0", x.shape(2, 0, 2), INVALID);
        due("1", x.shape(2, 1, 2), 1);
        due("1 there", x.count(2), 1);
        due("6", x.shape(2, 6, 2), 1);
        due("6 there", x.count(2), 6);
        due("7", x.shape(2, 7, 2), INVALID);
        due("6 still", x.count(2), 6);
    }

    static void columnsAreOneToSix() {
        SkewedSquare x = new SkewedSquare();
        due("0", x.shape(2, 2, 0), INVALID);
        due("1", x.shape(2, 2, 1), 1);
        due("1 there", x.count(3), 1);
        due("6", x.shape(2, 2, 6), 3);
        due("6 there", x.count(3), 6);
        due("7", x.shape(2, 2, 7), INVALID);
        due("6 still", x.count(3), 6);
    }

    static void rightOneHasAsManyRowsAsTheInnerLength() {
        SkewedSquare x = new SkewedSquare();
        x.shape(1, 5, 2);
        due("the last row", x.entry(1, 4, 1), 0);
        due("behind the last row", x.entry(1, 5, 1), INVALID);
        due("the last place", x.entry(0, 0, 4), 0);
        due("behind the last place", x.entry(0, 0, 5), INVALID);
    }

    static void atFirstAllThreeAreTwo() {
        SkewedSquare x = new SkewedSquare();
        due("rows", x.count(1), 2);
        due("inner length", x.count(2), 2);
        due("columns", x.count(3), 2);
        due("the last of the left one", x.entry(0, 1, 1), 0);
        due("behind the left one's rows", x.entry(0, 2, 0), INVALID);
        due("behind its places", x.entry(0, 0, 2), INVALID);
        due("the last of the right one", x.entry(1, 1, 1), 0);
        due("behind the right one's rows", x.entry(1, 2, 0), INVALID);
        due("behind its columns", x.entry(1, 0, 2), INVALID);
    }

    static void leftEntriesAreFromMinus99To99() {
        SkewedSquare x = new SkewedSquare();
        due("-100", x.left(1, 0, -100), INVALID);
        due("-99", x.left(1, 0, -99), 0);
        due("-99 there", x.entry(0, 1, 0), -99);
        due("99", x.left(1, 0, 99), -99);
        due("99 there", x.entry(0, 1, 0), 99);
        due("100", x.left(1, 0, 100), INVALID);
        due("99 still", x.entry(0, 1, 0), 99);
    }

    static void rightEntriesAreFromMinus99To99() {
        SkewedSquare x = new SkewedSquare();
        due("-100", x.right(1, 0, -100), INVALID);
        due("-99", x.right(1, 0, -99), 0);
        due("-99 there", x.entry(1, 1, 0), -99);
        due("99", x.right(1, 0, 99), -99);
        due("99 there", x.entry(1, 1, 0), 99);
        due("100", x.right(1, 0, 100), INVALID);
        due("99 still", x.entry(1, 1, 0), 99);
    }

    static void greatestEntriesGiveTheGreatestResults() {
        SkewedSquare x = Given.matrices(1, "99,99,99,99,99,99", "-99;-99;-99;-99;-99;-99");
        due("due", x.result(0, 0, 1), -58806);
        x.fault(0, 0, 2);
        x.all();
        due("each product twice", x.result(0, 0, 0), -117612);
        due("suspect row", x.suspects(0), 1);
        due("suspect column", x.suspects(1), 1);
    }

    static void entriesAre0AtFirst() {
        SkewedSquare x = new SkewedSquare();
        for (int i = 0; i < 2; i++) {
            for (int j = 0; j < 2; j++) {
                due("left", x.entry(0, i, j), 0);
                due("right", x.entry(1, i, j), 0);
            }
        }
    }

    static void resultHasRowsOfTheLeftAndColumnsOfTheRightOne() {
        SkewedSquare x = new SkewedSquare();
        x.shape(3, 1, 5);
        due("the last entry", x.result(2, 4, 1), 0);
        due("behind the rows", x.result(3, 4, 1), INVALID);
        due("behind the columns", x.result(2, 5, 1), INVALID);
        x.all();
        due("all of them", x.count(11), 15);
    }

    static void resultsAreUnknownAtFirst() {
        dueUnknown("new", new SkewedSquare());
    }

    private static void dueUnknown(String when, SkewedSquare x) {
        due(when + ": known", x.count(11), 0);
        int rows = x.count(1);
        int columns = x.count(3);
        for (int i = 0; i < rows; i++) {
            for (int j = 0; j < columns; j++) {
                due(when + ": result(" + i + ", " + j + ")", x.result(i, j, 0), NOT_FOUND);
            }
        }
    }

    static void resultsAreUnknownBehindSide() {
        SkewedSquare x = Given.allKnown();
        x.side(3);
        dueUnknown("another one", x);
        x.all();
        due("known", x.count(11), 4);
        x.side(3);
        dueUnknown("the same", x);
    }

    static void resultsAreUnknownBehindShape() {
        SkewedSquare x = Given.allKnown();
        x.shape(3, 2, 2);
        dueUnknown("another one", x);
        x.all();
        due("known", x.count(11), 6);
        x.shape(3, 2, 2);
        dueUnknown("the same, of zeros", x);
    }

    static void resultsAreUnknownBehindLeft() {
        SkewedSquare x = Given.allKnown();
        x.left(1, 1, -4);
        dueUnknown("another one", x);
        x.all();
        due("known", x.count(11), 4);
        x.left(1, 1, -4);
        dueUnknown("the same", x);
    }

    static void resultsAreUnknownBehindRight() {
        SkewedSquare x = Given.allKnown();
        x.right(0, 1, -4);
        dueUnknown("another one", x);
        x.all();
        due("known", x.count(11), 4);
        x.right(0, 1, -4);
        dueUnknown("the same", x);
    }

    static void resultsAreUnknownBehindReadOfTheLeftOne() {
        SkewedSquare x = Given.allKnown();
        Given.write(x, "1,2;3,5");
        x.read(0);
        dueUnknown("another one", x);
        x.all();
        due("known", x.count(11), 4);
        x.read(0);
        dueUnknown("the same", x);
    }

    static void resultsAreUnknownBehindReadOfTheRightOne() {
        SkewedSquare x = Given.allKnown();
        Given.write(x, "5,6;7,9");
        x.read(1);
        dueUnknown("another one", x);
        x.all();
        due("known", x.count(11), 4);
        x.read(1);
        dueUnknown("the same", x);
    }

    static void someKnownResultsAreUnknownToo() {
        SkewedSquare x = Given.fourTiles();
        Given.doTile(x, 1, 1);
        Given.doTile(x, 0, 0);
        due("known", x.count(11), 5);
        x.left(0, 0, 1);
        dueUnknown("behind left", x);
    }

    static void resultsStayBehindCallsThatReturnAnError() {
        SkewedSquare x = Given.allKnown();
        due("side", x.side(5), INVALID);
        due("shape", x.shape(2, 2, 7), INVALID);
        due("left", x.left(0, 0, 100), INVALID);
        due("right", x.right(2, 0, 1), INVALID);
        due("read", x.read(2), INVALID);
        x.type(';');
        due("read of a fault", x.read(0), NOT_POSSIBLE);
        due("known", x.count(11), 4);
        due("the last one", x.result(1, 1, 0), 50);
    }

    static void resultsStayBehindOtherChanges() {
        SkewedSquare x = Given.allKnown();
        x.fault(0, 0, 1);
        due("fault", x.count(11), 4);
        x.leave(0);
        due("leave", x.count(11), 4);
        x.begin(0, 0);
        due("begin", x.count(11), 4);
        x.tick(4);
        due("tick", x.count(11), 4);
        due("an entry at work", x.result(0, 0, 0), 19);
        x.drain();
        due("drain", x.count(11), 4);
        x.clearText();
        x.type('1');
        x.best();
        x.wouldBeWrong(0);
        due("the rest", x.count(11), 4);
    }

    // ---- the square

    static void sideIsTwoAtFirst() {
        SkewedSquare x = new SkewedSquare();
        due("side", x.count(0), 2);
        due("what it was", x.side(3), 2);
    }

    static void sideIsOneToFour() {
        SkewedSquare x = new SkewedSquare();
        due("0", x.side(0), INVALID);
        due("1", x.side(1), 2);
        due("1 there", x.count(0), 1);
        due("4", x.side(4), 1);
        due("4 there", x.count(0), 4);
        due("5", x.side(5), INVALID);
        due("4 still", x.count(0), 4);
    }

    static void squareHasNRowsAndOneColumnMore() {
        for (int n = 1; n <= 4; n++) {
            SkewedSquare x = new SkewedSquare();
            x.side(n);
            String side = "side " + n;
            due(side + ": the first cell", x.fault(0, 0, 1), 0);
            due(side + ": the last cell", x.fault(n - 1, n, 2), 0);
            due(side + ": both are there", x.count(13), 2);
            due(side + ": one row more", x.fault(n, n, 1), INVALID);
            due(side + ": one column more", x.fault(n - 1, n + 1, 1), INVALID);
            due(side + ": every cell is one of its own", faultyWhenAllAre(n), n * (n + 1));
        }
    }

    private static int faultyWhenAllAre(int n) {
        SkewedSquare x = new SkewedSquare();
        x.side(n);
        for (int row = 0; row < n; row++) {
            for (int column = 0; column <= n; column++) {
                x.fault(row, column, 1 + (row + column) % 4);
            }
        }
        return x.count(13);
    }

    static void lastColumnIsLeftOutAtFirst() {
        due("new", new SkewedSquare().count(5), 2);
        for (int n = 1; n <= 4; n++) {
            SkewedSquare x = new SkewedSquare();
            x.side(n);
            due("side " + n, x.count(5), n);
        }
    }

    static void useCountsTheColumnsThatAreNotLeftOut() {
        for (int n = 1; n <= 4; n++) {
            for (int leftOut = 0; leftOut <= n; leftOut++) {
                SkewedSquare x = new SkewedSquare();
                x.side(n);
                x.leave(leftOut);
                int use = 0;
                for (int place = 0; place <= n; place++) {
                    if (place != leftOut) {
                        due("side " + n + " without " + leftOut, x.cellOf(n - 1, use, 3), place);
                        use++;
                    }
                }
                due("side " + n + ": no more uses", x.cellOf(n - 1, use, 3), INVALID);
            }
        }
    }

    static void useHasTheRowOfItsPlace() {
        SkewedSquare x = new SkewedSquare();
        x.side(3);
        x.fault(2, 1, 4);
        x.fault(0, 3, 3);
        x.leave(0);
        due("row 2, column 1", x.cellOf(2, 0, 4), 4);
        due("row 0, column 3", x.cellOf(0, 2, 4), 3);
        due("row 1 is sound", x.cellOf(1, 0, 4), 0);
    }

    static void cellOfTheLeftOutColumnHasNoUse() {
        SkewedSquare x = new SkewedSquare();
        x.fault(0, 1, 2);
        x.fault(1, 1, 3);
        x.leave(1);
        for (int i = 0; i < 2; i++) {
            for (int j = 0; j < 2; j++) {
                due("every use is of a sound cell", x.cellOf(i, j, 4), 0);
            }
        }
        due("they are faulty still", x.count(13), 2);
    }

    static void cellHasSum0AndNothingOnItsWayAtFirst() {
        SkewedSquare x = Given.small();
        x.begin(0, 0);
        dueEmptyCells("begun", x, 2);
    }

    private static void dueEmptyCells(String when, SkewedSquare x, int n) {
        for (int i = 0; i < n; i++) {
            for (int j = 0; j < n; j++) {
                due(when + ": sum", x.cellOf(i, j, 0), 0);
                due(when + ": to the right", x.cellOf(i, j, 1), NOT_FOUND);
                due(when + ": down", x.cellOf(i, j, 2), NOT_FOUND);
                due(when + ": products", x.cellOf(i, j, 5), 0);
            }
        }
    }

    // ---- tiles

    static void tilesAreCutFromTheTopAndFromTheLeft() {
        SkewedSquare x = Given.fourTiles();
        Given.doTile(x, 0, 0);
        dueKnown("upper left", x, "110", "110", "000");
        x.undo();
        x.undo();
        x.undo();
        Given.doTile(x, 0, 1);
        dueKnown("upper right", x, "001", "001", "000");
        x.undo();
        x.undo();
        x.undo();
        Given.doTile(x, 1, 0);
        dueKnown("lower left", x, "000", "000", "110");
        x.undo();
        x.undo();
        x.undo();
        Given.doTile(x, 1, 1);
        dueKnown("lower right", x, "000", "000", "001");
    }

    private static void dueKnown(String when, SkewedSquare x, String... rows) {
        for (int i = 0; i < rows.length; i++) {
            for (int j = 0; j < rows[i].length(); j++) {
                boolean known = x.result(i, j, 0) != NOT_FOUND;
                Check.truth(when + ": result(" + i + ", " + j + ")", known == (rows[i].charAt(j) == '1'));
            }
        }
    }

    // All sides and shapes: how many tiles there are, and the ticks that each of them needs.
    static void tilesAtTheEndCanHaveFewer() {
        for (int n = 1; n <= 4; n++) {
            for (int rows = 1; rows <= 6; rows++) {
                for (int columns = 1; columns <= 6; columns++) {
                    dueTiles(n, rows, 1 + (rows + columns + n) % 6, columns);
                }
            }
        }
    }

    private static void dueTiles(int n, int rows, int inner, int columns) {
        String name = "side " + n + ", shape " + rows + ", " + inner + ", " + columns;
        SkewedSquare x = new SkewedSquare();
        x.side(n);
        int tiles = 0;
        int ticks = 0;
        due(name + ": shape", x.shape(rows, inner, columns), partsOf(rows, n) * partsOf(columns, n));
        for (int row = 0; row < partsOf(rows, n); row++) {
            for (int column = 0; column < partsOf(columns, n); column++) {
                int needed = partOf(rows, n, row) + partOf(columns, n, column) + inner - 2;
                due(name + ": begin(" + row + ", " + column + ")", x.begin(row, column), needed);
                x.undo();
                tiles++;
                ticks += needed;
            }
        }
        due(name + ": count(4)", x.count(4), tiles);
        due(name + ": all()", x.all(), ticks);
        due(name + ": a row more", x.begin(partsOf(rows, n), 0), INVALID);
        due(name + ": a column more", x.begin(0, partsOf(columns, n)), INVALID);
    }

    private static int partsOf(int length, int n) {
        int parts = 0;
        for (int begun = 0; begun < length; begun += n) {
            parts++;
        }
        return parts;
    }

    private static int partOf(int length, int n, int part) {
        int many = 0;
        for (int i = part * n; i < length && i < part * n + n; i++) {
            many++;
        }
        return many;
    }

    static void tilesAreToldFrom0() {
        SkewedSquare x = Given.fourTiles();
        due("row -1", x.begin(-1, 0), INVALID);
        due("column -1", x.begin(0, -1), INVALID);
        due("the first one", x.begin(0, 0), 4);
        due("its row", x.count(7), 0);
        due("its column", x.count(8), 0);
    }

    static void beginEmptiesTheCellsOfTheTileBefore() {
        SkewedSquare x = Given.small();
        Given.doTile(x, 0, 0);
        x.begin(0, 0);
        dueEmptyCells("behind drain", x, 2);
    }

    static void beginEmptiesTheCellsBehindAll() {
        SkewedSquare x = Given.fourTiles();
        x.all();
        x.begin(1, 1);
        dueEmptyCells("behind all", x, 2);
    }

    static void beginEmptiesTheCellsOfATileThatWasBrokenOff() {
        SkewedSquare x = Given.atWork();
        x.side(2);
        x.begin(0, 0);
        dueEmptyCells("behind side", x, 2);
        x.tick(2);
        x.shape(2, 2, 2);
        x.begin(0, 0);
        dueEmptyCells("behind shape", x, 2);
    }

    static void beginSetsTheTickTo0() {
        SkewedSquare x = Given.small();
        Given.doTile(x, 0, 0);
        x.begin(0, 0);
        due("behind drain", x.count(9), 0);
        x.tick(3);
        x.side(2);
        x.begin(0, 0);
        due("behind side", x.count(9), 0);
        due("ticks left", x.count(10), 4);
    }

    // ---- a tick

    // Of each cell, row by row: its sum, what is on its way to the right, and down.
    private static void dueCells(String when, SkewedSquare x, int n, int... wants) {
        for (int cell = 0; cell < n * n; cell++) {
            for (int what = 0; what <= 2; what++) {
                due(when + ": cellOf(" + cell / n + ", " + cell % n + ", " + what + ")",
                    x.cellOf(cell / n, cell % n, what), wants[cell * 3 + what]);
            }
        }
    }

    static void numbersWalkInSkewedSteps() {
        SkewedSquare x = Given.small();
        int no = NOT_FOUND;
        x.begin(0, 0);
        x.tick(1);
        dueCells("tick 0", x, 2, 5, 1, 5, 0, no, no, 0, no, no, 0, no, no);
        x.tick(1);
        dueCells("tick 1", x, 2, 19, 2, 7, 6, 1, 6, 15, 3, 5, 0, no, no);
        x.tick(1);
        dueCells("tick 2", x, 2, 19, no, no, 22, 2, 8, 43, 4, 7, 18, 3, 6);
        x.tick(1);
        dueCells("tick 3", x, 2, 19, no, no, 22, no, no, 43, no, no, 50, 4, 8);
    }

    static void rowIGetsItsFirstEntryInTickI() {
        SkewedSquare x = Given.matrices(4, "11;12;13;14", "1");
        x.begin(0, 0);
        for (int t = 0; t < 4; t++) {
            x.tick(1);
            for (int i = 0; i < 4; i++) {
                due("row " + i + " behind tick " + t, x.cellOf(i, 0, 1), i == t ? 11 + i : NOT_FOUND);
            }
        }
    }

    static void columnJGetsItsFirstEntryInTickJ() {
        SkewedSquare x = Given.matrices(4, "1", "11,12,13,14");
        x.begin(0, 0);
        for (int t = 0; t < 4; t++) {
            x.tick(1);
            for (int j = 0; j < 4; j++) {
                due("column " + j + " behind tick " + t, x.cellOf(0, j, 2), j == t ? 11 + j : NOT_FOUND);
            }
        }
    }

    static void placesOfTheInnerLengthComeOneAfterTheOther() {
        SkewedSquare x = Given.matrices(2, "1,2,3,4,5,6;0,0,0,0,0,0", "7;8;9;10;11;12");
        x.begin(0, 0);
        for (int t = 0; t < 6; t++) {
            x.tick(1);
            due("left in tick " + t, x.cellOf(0, 0, 1), 1 + t);
            due("above in tick " + t, x.cellOf(0, 0, 2), 7 + t);
        }
        x.tick(1);
        due("left behind the last place", x.cellOf(0, 0, 1), NOT_FOUND);
        due("above behind the last place", x.cellOf(0, 0, 2), NOT_FOUND);
    }

    static void tileAtTheEndGetsItsOwnRowsAndColumns() {
        SkewedSquare x = Given.fourTiles();
        x.begin(1, 1);
        x.tick(1);
        due("left", x.cellOf(0, 0, 1), 5);
        due("above", x.cellOf(0, 0, 2), 3);
        due("sum", x.cellOf(0, 0, 0), 15);
        x.tick(1);
        due("left", x.cellOf(0, 0, 1), 6);
        due("above", x.cellOf(0, 0, 2), 6);
        due("sum", x.cellOf(0, 0, 0), 51);
    }

    static void numberGoesOneCellToTheRightInATick() {
        SkewedSquare x = Given.matrices(4, "9", "1,1,1,1");
        x.begin(0, 0);
        for (int t = 0; t < 4; t++) {
            x.tick(1);
            for (int j = 0; j < 4; j++) {
                due("cell " + j + " behind tick " + t, x.cellOf(0, j, 1), j == t ? 9 : NOT_FOUND);
            }
        }
    }

    static void numberGoesOneCellDownInATick() {
        SkewedSquare x = Given.matrices(4, "1;1;1;1", "9");
        x.begin(0, 0);
        for (int t = 0; t < 4; t++) {
            x.tick(1);
            for (int i = 0; i < 4; i++) {
                due("cell " + i + " behind tick " + t, x.cellOf(i, 0, 2), i == t ? 9 : NOT_FOUND);
            }
        }
    }

    static void productsAreAddedToTheSum() {
        SkewedSquare x = Given.matrices(1, "2,-3,0,5", "7;11;13;-17");
        x.begin(0, 0);
        int[] sums = {14, 14 - 33, 14 - 33, 14 - 33 - 85};
        for (int t = 0; t < 4; t++) {
            x.tick(1);
            due("sum behind tick " + t, x.cellOf(0, 0, 0), sums[t]);
            due("products behind tick " + t, x.cellOf(0, 0, 5), t + 1);
        }
    }

    static void entry0IsANumberOnItsWay() {
        SkewedSquare x = new SkewedSquare();
        x.begin(0, 0);
        x.tick(1);
        due("0 to the right", x.cellOf(0, 0, 1), 0);
        due("0 down", x.cellOf(0, 0, 2), 0);
        due("met", x.cellOf(0, 0, 5), 1);
        due("nothing yet", x.cellOf(0, 1, 1), NOT_FOUND);
    }

    static void nothingIsOnItsWayFromACellThatGotNothing() {
        SkewedSquare x = Given.small();
        x.begin(0, 0);
        x.tick(3);
        due("to the right", x.cellOf(0, 0, 1), NOT_FOUND);
        due("down", x.cellOf(0, 0, 2), NOT_FOUND);
        due("the sum stays", x.cellOf(0, 0, 0), 19);
    }

    static void tickCountsUpBy1() {
        SkewedSquare x = Given.small();
        x.begin(0, 0);
        for (int t = 0; t < 4; t++) {
            due("ticks so far", x.count(9), t);
            x.tick(1);
        }
        due("ticks so far", x.count(9), 4);
    }

    static void manyTicksAreAsManySingleOnes() {
        for (int many = 1; many <= 6; many++) {
            SkewedSquare x = Given.matrices(3, "1,2;3,4;5,6", "7,8,9;-1,-2,-3");
            SkewedSquare y = Given.matrices(3, "1,2;3,4;5,6", "7,8,9;-1,-2,-3");
            x.begin(0, 0);
            y.begin(0, 0);
            x.tick(many);
            for (int i = 0; i < many; i++) {
                y.tick(1);
            }
            Look.dueSame(many + " ticks", Look.at(x), Look.at(y), false);
        }
    }

    static void tileIsDoneBehindItsTicks() {
        for (int n = 1; n <= 4; n++) {
            for (int inner = 1; inner <= 6; inner++) {
                SkewedSquare x = new SkewedSquare();
                x.side(n);
                x.shape(n, inner, n);
                int needed = x.begin(0, 0);
                String name = "side " + n + ", inner length " + inner;
                due(name, needed, n + n + inner - 2);
                for (int t = 1; t < needed; t++) {
                    due(name + ": tick", x.tick(1), needed - t);
                    due(name + ": not done", x.drain(), NOT_POSSIBLE);
                }
                due(name + ": the last tick", x.tick(1), 0);
                due(name + ": done", x.drain(), n * n);
            }
        }
    }

    static void nothingGoesOnWhenTheTileIsDone() {
        SkewedSquare x = Given.tileDone();
        due("one more tick", x.tick(1), NOT_POSSIBLE);
        due("ticks so far", x.count(9), 4);
        dueCells("done", x, 2, 19, NOT_FOUND, NOT_FOUND, 22, NOT_FOUND, NOT_FOUND,
            43, NOT_FOUND, NOT_FOUND, 50, 4, 8);
    }

    static void ticksEndWithTheTile() {
        SkewedSquare x = Given.small();
        x.begin(0, 0);
        due("20 of 4", x.tick(20), 0);
        due("ticks so far", x.count(9), 4);
        dueCells("done", x, 2, 19, NOT_FOUND, NOT_FOUND, 22, NOT_FOUND, NOT_FOUND,
            43, NOT_FOUND, NOT_FOUND, 50, 4, 8);
    }

    static void cellsOutOfTheTileGetNothing() {
        SkewedSquare x = Given.matrices(3, "1,2", "3;4");
        x.begin(0, 0);
        for (int t = 0; t < 2; t++) {
            x.tick(1);
            for (int cell = 1; cell < 9; cell++) {
                due("sum", x.cellOf(cell / 3, cell % 3, 0), 0);
                due("to the right", x.cellOf(cell / 3, cell % 3, 1), NOT_FOUND);
                due("down", x.cellOf(cell / 3, cell % 3, 2), NOT_FOUND);
                due("products", x.cellOf(cell / 3, cell % 3, 5), 0);
            }
        }
    }

    static void cellsBehindTheLastColumnOfTheTileGetNothing() {
        SkewedSquare x = Given.fourTiles();
        x.begin(0, 1);
        x.tick(3);
        due("the tile's column", x.cellOf(1, 0, 1), 4);
        due("right of it", x.cellOf(0, 1, 1), NOT_FOUND);
        due("right of it", x.cellOf(1, 1, 1), NOT_FOUND);
        due("products there", x.cellOf(0, 1, 5), 0);
        due("sums there", x.cellOf(0, 1, 0), 0);
    }

    static void cellsBehindTheLastRowOfTheTileGetNothing() {
        SkewedSquare x = Given.fourTiles();
        x.begin(1, 0);
        x.tick(3);
        due("the tile's row", x.cellOf(0, 1, 2), 5);
        due("below it", x.cellOf(1, 0, 2), NOT_FOUND);
        due("below it", x.cellOf(1, 1, 2), NOT_FOUND);
        due("products there", x.cellOf(1, 0, 5), 0);
        due("sums there", x.cellOf(1, 0, 0), 0);
    }

    // ---- faulty cells

    private static SkewedSquare smallWithFault(int row, int column, int kind) {
        SkewedSquare x = Given.small();
        x.fault(row, column, kind);
        return x;
    }

    private static void dueResults(String when, SkewedSquare x, int... wants) {
        for (int i = 0; i < wants.length; i++) {
            due(when + ": result(" + i / 2 + ", " + i % 2 + ")", x.result(i / 2, i % 2, 0), wants[i]);
        }
    }

    static void cellsAreSoundAtFirst() {
        SkewedSquare x = new SkewedSquare();
        due("none is faulty", x.count(13), 0);
        for (int row = 0; row < 2; row++) {
            for (int column = 0; column < 3; column++) {
                due("what it was", x.fault(row, column, 0), 0);
            }
        }
    }

    static void kind1AddsNothing() {
        SkewedSquare x = smallWithFault(0, 0, 1);
        x.all();
        dueResults("the others are sound", x, 0, 22, 43, 50);
    }

    static void kind1SendsOnWhatItGot() {
        SkewedSquare x = smallWithFault(0, 0, 1);
        x.begin(0, 0);
        x.tick(1);
        due("sum", x.cellOf(0, 0, 0), 0);
        due("to the right", x.cellOf(0, 0, 1), 1);
        due("down", x.cellOf(0, 0, 2), 5);
    }

    static void kind2AddsEachProductTwice() {
        SkewedSquare x = smallWithFault(1, 0, 2);
        x.all();
        dueResults("the others are sound", x, 19, 22, 86, 50);
        x.begin(0, 0);
        x.tick(2);
        due("the first one", x.cellOf(1, 0, 0), 30);
        x.tick(1);
        due("the second one", x.cellOf(1, 0, 0), 86);
    }

    static void kind2SendsOnWhatItGot() {
        SkewedSquare x = smallWithFault(0, 0, 2);
        x.begin(0, 0);
        x.tick(1);
        due("sum", x.cellOf(0, 0, 0), 10);
        due("to the right", x.cellOf(0, 0, 1), 1);
        due("down", x.cellOf(0, 0, 2), 5);
    }

    static void kind3Sends0ToTheRight() {
        SkewedSquare x = smallWithFault(0, 0, 3);
        x.begin(0, 0);
        x.tick(1);
        due("its own sum", x.cellOf(0, 0, 0), 5);
        due("to the right", x.cellOf(0, 0, 1), 0);
        due("down", x.cellOf(0, 0, 2), 5);
        x.tick(3);
        x.drain();
        dueResults("the one to its right", x, 19, 0, 43, 50);
    }

    static void kind3SendsNothingIfItGotNothing() {
        SkewedSquare x = smallWithFault(0, 0, 3);
        x.fault(0, 1, 3);
        x.begin(0, 0);
        x.tick(1);
        due("not yet", x.cellOf(0, 1, 1), NOT_FOUND);
        x.tick(2);
        due("no more", x.cellOf(0, 0, 1), NOT_FOUND);
        due("a 0 of a 0", x.cellOf(0, 1, 1), 0);
    }

    static void kind3AllTheWayToTheRight() {
        SkewedSquare x = Given.matrices(3, "1;1", "2,3,4");
        x.fault(0, 1, 3);
        x.all();
        due("left of it", x.result(0, 0, 0), 2);
        due("itself", x.result(0, 1, 0), 3);
        due("right of it", x.result(0, 2, 0), 0);
        due("the row below", x.result(1, 2, 0), 4);
    }

    static void kind4Sends0Down() {
        SkewedSquare x = smallWithFault(0, 1, 4);
        x.begin(0, 0);
        x.tick(2);
        due("its own sum", x.cellOf(0, 1, 0), 6);
        due("to the right", x.cellOf(0, 1, 1), 1);
        due("down", x.cellOf(0, 1, 2), 0);
        x.tick(2);
        x.drain();
        dueResults("the one below", x, 19, 22, 43, 0);
    }

    static void kind4SendsNothingIfItGotNothing() {
        SkewedSquare x = smallWithFault(0, 0, 4);
        x.fault(1, 0, 4);
        x.begin(0, 0);
        x.tick(1);
        due("not yet", x.cellOf(1, 0, 2), NOT_FOUND);
        x.tick(2);
        due("no more", x.cellOf(0, 0, 2), NOT_FOUND);
        due("a 0 of a 0", x.cellOf(1, 0, 2), 0);
    }

    static void kind4AllTheWayDown() {
        SkewedSquare x = Given.matrices(3, "2;3;4", "1,1");
        x.fault(1, 0, 4);
        x.all();
        due("above it", x.result(0, 0, 0), 2);
        due("itself", x.result(1, 0, 0), 3);
        due("below it", x.result(2, 0, 0), 0);
        due("the column beside", x.result(2, 1, 0), 4);
    }

    static void lastColumnSendsToTheRightWithoutHarm() {
        SkewedSquare x = smallWithFault(0, 1, 3);
        x.fault(1, 1, 3);
        x.all();
        dueResults("nobody gets it", x, 19, 22, 43, 50);
    }

    static void lastRowSendsDownWithoutHarm() {
        SkewedSquare x = smallWithFault(1, 0, 4);
        x.fault(1, 1, 4);
        x.all();
        dueResults("nobody gets it", x, 19, 22, 43, 50);
    }

    static void cellsAreFaultyByTheirPlaces() {
        SkewedSquare x = smallWithFault(0, 1, 1);
        x.all();
        dueResults("column 1 is used second", x, 19, 0, 43, 50);
        x.leave(0);
        x.all();
        dueResults("column 1 is used first", x, 0, 22, 43, 50);
    }

    static void leftOutCellsDoNoHarm() {
        SkewedSquare x = smallWithFault(0, 1, 1);
        x.fault(1, 1, 4);
        x.leave(1);
        x.all();
        dueResults("without them", x, 19, 22, 43, 50);
    }

    static void leftOutColumnIsSteppedOver() {
        SkewedSquare x = smallWithFault(0, 0, 3);
        x.fault(0, 1, 3);
        x.leave(1);
        x.begin(0, 0);
        x.tick(2);
        due("what column 0 sends reaches column 2", x.cellOf(0, 1, 1), 0);
        due("it met it", x.cellOf(0, 1, 5), 1);
        due("it is column 2", x.cellOf(0, 1, 3), 2);
    }

    static void everyTileGoesThroughTheSameCells() {
        SkewedSquare x = Given.fourTiles();
        x.fault(0, 0, 1);
        x.all();
        due("wrong", x.count(12), 4);
        due("result(0, 0)", x.result(0, 0, 0), 0);
        due("result(0, 2)", x.result(0, 2, 0), 0);
        due("result(2, 0)", x.result(2, 0, 0), 0);
        due("result(2, 2)", x.result(2, 2, 0), 0);
        due("result(1, 1)", x.result(1, 1, 0), 26);
    }

    static void soundAgainAddsAsItShould() {
        SkewedSquare x = smallWithFault(0, 0, 1);
        x.fault(0, 0, 0);
        x.all();
        dueResults("sound", x, 19, 22, 43, 50);
    }

    // ---- drains

    static void drainMakesSumsTheEntriesThere() {
        SkewedSquare x = Given.tileDone();
        due("drain", x.drain(), 4);
        dueResults("sums", x, 19, 22, 43, 50);
    }

    static void drainTouchesNoOtherEntries() {
        SkewedSquare x = Given.fourTiles();
        x.all();
        x.fault(0, 0, 1);
        Given.doTile(x, 1, 0);
        due("there", x.result(2, 0, 0), 0);
        due("there, sound", x.result(2, 1, 0), 40);
        due("above", x.result(1, 0, 0), 19);
        due("right", x.result(2, 2, 0), 51);
        due("far", x.result(0, 0, 0), 9);
    }

    static void noTileIsBegunBehindDrain() {
        SkewedSquare x = Given.tileDone();
        due("done, it is begun still", x.count(6), 1);
        x.drain();
        due("drained", x.count(6), 0);
        due("no ticks", x.count(9), NOT_FOUND);
        due("no cells", x.cellOf(0, 0, 0), NOT_POSSIBLE);
        due("no tick", x.tick(1), NOT_POSSIBLE);
        due("not again", x.drain(), NOT_POSSIBLE);
    }

    static void tileCanBeDrainedOnlyWhenDone() {
        SkewedSquare x = Given.small();
        due("no tile", x.drain(), NOT_POSSIBLE);
        x.begin(0, 0);
        due("no tick", x.drain(), NOT_POSSIBLE);
        x.tick(3);
        due("one tick is left", x.drain(), NOT_POSSIBLE);
        x.tick(1);
        due("done", x.drain(), 4);
    }

    static void sameTileAgainGivesItsNewSums() {
        SkewedSquare x = Given.allKnown();
        x.fault(1, 1, 2);
        Given.doTile(x, 0, 0);
        dueResults("drained anew", x, 19, 22, 43, 100);
    }

    // ---- what is due

    static void dueIsTheProductAsItShouldBe() {
        SkewedSquare x = smallWithFault(0, 0, 1);
        int[] wants = {19, 22, 43, 50};
        for (int i = 0; i < 4; i++) {
            due("nothing known", x.result(i / 2, i % 2, 1), wants[i]);
        }
        x.all();
        for (int i = 0; i < 4; i++) {
            due("wrong ones known", x.result(i / 2, i % 2, 1), wants[i]);
        }
    }

    static void dueOfEveryShape() {
        for (int inner = 1; inner <= 6; inner++) {
            SkewedSquare x = new SkewedSquare();
            x.shape(6, inner, 6);
            int sum = 0;
            for (int p = 0; p < inner; p++) {
                x.left(5, p, p + 2);
                x.right(p, 5, 3 - p);
                sum += (p + 2) * (3 - p);
            }
            due("inner length " + inner, x.result(5, 5, 1), sum);
            due("row of zeros", x.result(4, 5, 1), 0);
            due("column of zeros", x.result(5, 4, 1), 0);
        }
    }

    static void knownEntryThatIsNotDueIsWrong() {
        SkewedSquare x = smallWithFault(0, 0, 2);
        x.all();
        due("one", x.count(12), 1);
        x.fault(1, 1, 1);
        x.all();
        due("two", x.count(12), 2);
    }

    static void unknownEntryIsNotWrong() {
        SkewedSquare x = Given.fourTiles();
        due("none known", x.count(12), 0);
        x.fault(0, 0, 1);
        Given.doTile(x, 0, 1);
        due("one of two known", x.count(12), 1);
        x.left(0, 0, 1);
        due("unknown again", x.count(12), 0);
    }

    static void entryOfAFaultyCellCanBeRight() {
        SkewedSquare x = Given.matrices(2, "0,0;3,4", "5,6;7,8");
        x.fault(0, 0, 1);
        x.fault(0, 1, 2);
        x.all();
        due("0 is what is due", x.count(12), 0);
        due("known", x.count(11), 4);
    }

    static void rowIsSuspectByItsSum() {
        SkewedSquare x = smallWithFault(1, 0, 1);
        x.all();
        due("row 1", x.suspects(0), 2);
        x.fault(0, 0, 2);
        x.all();
        due("both rows", x.suspects(0), 3);
    }

    static void columnIsSuspectByItsSum() {
        SkewedSquare x = smallWithFault(1, 1, 1);
        x.all();
        due("column 1", x.suspects(1), 2);
        x.fault(0, 0, 2);
        x.all();
        due("both columns", x.suspects(1), 3);
    }

    static void rowIsNotSuspectIfAnEntryIsUnknown() {
        SkewedSquare x = Given.fourTiles();
        x.fault(0, 0, 1);
        Given.doTile(x, 0, 0);
        due("the last one is unknown", x.suspects(0), 0);
        Given.doTile(x, 0, 1);
        due("row 0 is whole", x.suspects(0), 1);
        x.side(2);
        x.fault(0, 0, 1);
        Given.doTile(x, 0, 1);
        due("the first ones are unknown", x.suspects(0), 0);
    }

    static void columnIsNotSuspectIfAnEntryIsUnknown() {
        SkewedSquare x = Given.fourTiles();
        x.fault(0, 0, 1);
        Given.doTile(x, 0, 0);
        due("the last one is unknown", x.suspects(1), 0);
        Given.doTile(x, 1, 0);
        due("column 0 is whole", x.suspects(1), 1);
        x.side(2);
        x.fault(0, 0, 1);
        Given.doTile(x, 1, 0);
        due("the first ones are unknown", x.suspects(1), 0);
    }

    // Every entry comes from the one cell that is faulty, so all would be wrong.
    private static SkewedSquare knownButOne(int rows, int columns, int unknown) {
        SkewedSquare x = new SkewedSquare();
        x.side(1);
        x.shape(rows, 1, columns);
        for (int i = 0; i < rows; i++) {
            x.left(i, 0, 1);
        }
        for (int j = 0; j < columns; j++) {
            x.right(0, j, 1);
        }
        x.fault(0, 0, 1);
        for (int entry = 0; entry < rows * columns; entry++) {
            if (entry != unknown) {
                Given.doTile(x, entry / columns, entry % columns);
            }
        }
        return x;
    }

    static void eachUnknownEntryKeepsItsRowAndColumnFromBeingSuspect() {
        for (int[] shape : new int[][] {{2, 5}, {3, 3}, {5, 2}, {1, 6}, {6, 1}}) {
            int rows = shape[0];
            int columns = shape[1];
            for (int unknown = 0; unknown < rows * columns; unknown++) {
                SkewedSquare x = knownButOne(rows, columns, unknown);
                String name = rows + " by " + columns + " without " + unknown;
                due(name + ": rows", x.suspects(0), (1 << rows) - 1 - (1 << unknown / columns));
                due(name + ": columns", x.suspects(1), (1 << columns) - 1 - (1 << unknown % columns));
            }
        }
    }

    static void soundSquareLeavesNothingSuspectInAnyShape() {
        for (int shape = 0; shape < 216; shape++) {
            SkewedSquare x = filled(1 + shape / 36, 1 + shape / 6 % 6, 1 + shape % 6);
            x.all();
            due("wrong in shape " + shape, x.count(12), 0);
            due("rows of shape " + shape, x.suspects(0), 0);
            due("columns of shape " + shape, x.suspects(1), 0);
        }
    }

    private static SkewedSquare filled(int rows, int inner, int columns) {
        SkewedSquare x = new SkewedSquare();
        x.side(3);
        x.shape(rows, inner, columns);
        for (int i = 0; i < rows; i++) {
            for (int p = 0; p < inner; p++) {
                x.left(i, p, 1 + i + 7 * p);
            }
        }
        for (int p = 0; p < inner; p++) {
            for (int j = 0; j < columns; j++) {
                x.right(p, j, 2 - 3 * p + 5 * j);
            }
        }
        return x;
    }

    static void rowIsNotSuspectIfItsWrongEntriesCancel() {
        SkewedSquare x = Given.matrices(2, "1", "3,-3");
        x.fault(0, 0, 1);
        x.fault(0, 1, 1);
        x.all();
        due("both are wrong", x.count(12), 2);
        due("the row", x.suspects(0), 0);
        due("the columns", x.suspects(1), 3);
    }

    static void columnIsNotSuspectIfItsWrongEntriesCancel() {
        SkewedSquare x = Given.matrices(2, "3;-3", "1");
        x.fault(0, 0, 1);
        x.fault(1, 0, 1);
        x.all();
        due("both are wrong", x.count(12), 2);
        due("the rows", x.suspects(0), 3);
        due("the column", x.suspects(1), 0);
    }

    static void setsAreToldAsBits() {
        SkewedSquare x = new SkewedSquare();
        x.side(4);
        x.shape(6, 1, 5);
        for (int i = 0; i < 6; i++) {
            x.left(i, 0, i + 1);
        }
        for (int j = 0; j < 5; j++) {
            x.right(0, j, j + 1);
        }
        x.fault(1, 0, 1);
        x.all();
        due("rows 1 and 5", x.suspects(0), 2 + 32);
        due("columns 0 and 4", x.suspects(1), 1 + 16);
    }
}
