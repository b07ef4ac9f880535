// "Texts" in the section "Terms", and promises 20 to 23: a test for each sentence.
public final class TextsTest {
    private static final int INVALID = Check.INVALID;
    private static final int NOT_POSSIBLE = Check.NOT_POSSIBLE;
    private static final int LIMIT = Check.LIMIT;
    private static final int NOT_FOUND = Check.NOT_FOUND;
    private static final String DIGITS = "0123456789";

    private TextsTest() {
    }

    public static void main(String[] args) {
        Check.runTestsOf(TextsTest.class);
    }

    private static void due(String what, long got, long want) {
        Check.due(what, got, want);
    }

    private static void dueFault(String text, int place, int reason) {
        SkewedSquare x = Given.withText(text);
        due("place in '" + text + "'", x.textFault(0), place);
        due("reason in '" + text + "'", x.textFault(1), reason);
        due("read(0) of '" + text + "'", x.read(0), NOT_POSSIBLE);
        due("read(1) of '" + text + "'", x.read(1), NOT_POSSIBLE);
    }

    private static void dueNoFault(String text, int entries) {
        SkewedSquare x = Given.withText(text);
        due("place in '" + text + "'", x.textFault(0), NOT_FOUND);
        due("reason in '" + text + "'", x.textFault(1), NOT_FOUND);
        due("read(0) of '" + text + "'", x.read(0), entries);
        due("read(1) of '" + text + "'", x.read(1), entries);
    }

    // ---- the text

    static void textIsEmptyAtFirst() {
        SkewedSquare x = new SkewedSquare();
        due("length", x.count(15), 0);
        due("length it had", x.clearText(), 0);
    }

    static void textHoldsAtMost80Characters() {
        SkewedSquare x = new SkewedSquare();
        for (int length = 1; length <= 80; length++) {
            due("type", x.type('1'), length);
        }
        due("one more", x.type('1'), LIMIT);
        due("80 still", x.count(15), 80);
    }

    static void seventyNineCharactersTakeOneMore() {
        SkewedSquare x = Given.withText("1".repeat(79));
        due("the last one", x.type('1'), 80);
        due("one more", x.type('1'), LIMIT);
    }

    static void clearedTextTakes80CharactersAgain() {
        SkewedSquare x = Given.fullText();
        due("length it had", x.clearText(), 80);
        due("length", x.count(15), 0);
        for (int length = 1; length <= 80; length++) {
            due("type", x.type('1'), length);
        }
        due("one more", x.type('1'), LIMIT);
    }

    static void charactersAre32To126() {
        SkewedSquare x = new SkewedSquare();
        due("31", x.type(31), INVALID);
        due("32", x.type(32), 1);
        due("126", x.type(126), 2);
        due("127", x.type(127), INVALID);
        due("length", x.count(15), 2);
    }

    static void everyCharacterInTheRangeIsTaken() {
        SkewedSquare x = new SkewedSquare();
        for (int character = 32; character <= 111; character++) {
            due("type(" + character + ")", x.type(character), character - 31);
        }
        x.clearText();
        for (int character = 112; character <= 126; character++) {
            due("type(" + character + ")", x.type(character), character - 111);
        }
    }

    static void charactersFarOutAreNotTaken() {
        SkewedSquare x = new SkewedSquare();
        for (int character : new int[] {-1, 0, 255, 256 + '1', 65536 + '1', Check.LEAST, Check.MOST}) {
            due("type(" + character + ")", x.type(character), INVALID);
        }
        due("length", x.count(15), 0);
    }

    static void clearOfAnEmptyTextReturns0() {
        SkewedSquare x = Given.withText("12");
        due("length it had", x.clearText(), 2);
        due("again", x.clearText(), 0);
    }

    static void clearedTextHoldsNothingOfTheOldOne() {
        SkewedSquare x = Given.withText("1,2;3,4");
        x.clearText();
        x.type('5');
        due("no fault", x.textFault(0), NOT_FOUND);
        due("one entry", x.read(0), 1);
        due("the new one", x.entry(0, 0, 0), 5);
    }

    // ---- entries

    static void entryHasOneOrTwoDigits() {
        dueNoFault("7", 1);
        dueNoFault("70", 1);
        dueFault("700", 2, 1);
        dueFault("1,700", 4, 1);
    }

    static void entryPerhapsHasAMinus() {
        dueNoFault("-7", 1);
        dueNoFault("-70", 1);
        dueFault("-700", 3, 1);
        dueFault("--7", 1, 1);
        dueFault("7-", 1, 1);
        dueFault("70-", 2, 1);
        dueFault("-7-", 2, 1);
    }

    static void zerosAheadAreDigits() {
        dueNoFault("07", 1);
        dueNoFault("-00", 1);
        dueFault("007", 2, 1);
        dueFault("000", 2, 1);
    }

    static void entriesAreReadAsNumbers() {
        String[] texts = {"0", "-0", "00", "-00", "7", "07", "-7", "-07", "10", "-10", "99", "-99"};
        int[] wants = {0, 0, 0, 0, 7, 7, -7, -7, 10, -10, 99, -99};
        for (int i = 0; i < texts.length; i++) {
            SkewedSquare x = Given.withText(texts[i]);
            x.read(0);
            due("'" + texts[i] + "' on the left", x.entry(0, 0, 0), wants[i]);
            x.read(1);
            due("'" + texts[i] + "' on the right", x.entry(1, 0, 0), wants[i]);
        }
    }

    static void everyDigitIsReadAsItsNumber() {
        for (int digit = 0; digit <= 9; digit++) {
            SkewedSquare x = Given.withText(digit + ",-" + digit + (9 - digit));
            x.read(0);
            due("one digit " + digit, x.entry(0, 0, 0), digit);
            due("first digit " + digit, x.entry(0, 0, 1), -(10 * digit + 9 - digit));
        }
    }

    // ---- reason 1: a character that cannot stand at its place

    private static void dueAllowedBehind(String beginning, String allowed) {
        for (char sign = 32; sign <= 126; sign++) {
            SkewedSquare x = Given.withText(beginning + sign);
            String name = "'" + beginning + sign + "'";
            if (allowed.indexOf(sign) < 0) {
                due("place in " + name, x.textFault(0), beginning.length());
                due("reason in " + name, x.textFault(1), 1);
            } else {
                Check.truth("no fault at the last place of " + name, x.textFault(0) != beginning.length());
            }
        }
    }

    static void atTheBeginningStandsAnEntry() {
        dueAllowedBehind("", DIGITS + "-");
    }

    static void behindAMinusStandsADigit() {
        dueAllowedBehind("-", DIGITS);
        dueAllowedBehind("1,-", DIGITS);
        dueAllowedBehind("1;-", DIGITS);
    }

    static void behindOneDigitStandsADigitOrTheEntryEnds() {
        dueAllowedBehind("1", DIGITS + ",;");
        dueAllowedBehind("-1", DIGITS + ",;");
        dueAllowedBehind("23,1", DIGITS + ",;");
    }

    static void behindTwoDigitsTheEntryEnds() {
        dueAllowedBehind("12", ",;");
        dueAllowedBehind("-12", ",;");
        dueAllowedBehind("1,02", ",;");
    }

    static void behindACommaStandsAnEntry() {
        dueAllowedBehind("1,", DIGITS + "-");
        dueAllowedBehind("1,2;3,", DIGITS + "-");
    }

    static void behindASemicolonStandsAnEntry() {
        dueAllowedBehind("1;", DIGITS + "-");
        dueAllowedBehind("1;2;", DIGITS + "-");
    }

    static void emptyTextEndsTooEarly() {
        dueFault("", 0, 1);
    }

    static void textEndsTooEarlyBehindAMinus() {
        dueFault("-", 1, 1);
        dueFault("1,-", 3, 1);
        dueFault("1;-", 3, 1);
    }

    static void textEndsTooEarlyBehindAComma() {
        dueFault("1,", 2, 1);
        dueFault("1,2;3,", 6, 1);
        dueFault("1,2,3;4,", 8, 1);
    }

    static void textEndsTooEarlyBehindASemicolon() {
        dueFault("1;", 2, 1);
        dueFault("1,2;", 4, 1);
        dueFault("1;2;3;4;5;", 10, 1);
    }

    static void textWithABlankHasAFaultThere() {
        dueFault(" ", 0, 1);
        dueFault(" 1", 0, 1);
        dueFault("1 ", 1, 1);
        dueFault("1, 2", 2, 1);
    }

    // ---- reason 2: too many or too few

    static void firstRowHasAtMostSixEntries() {
        dueNoFault("1,2,3,4,5,6", 6);
        dueFault("1,2,3,4,5,6,7", 11, 2);
        dueFault("1,2,3,4,5,6,", 11, 2);
    }

    static void otherRowHasNoMoreEntriesThanTheFirstOne() {
        dueNoFault("1;2", 2);
        dueFault("1;2,3", 3, 2);
        dueFault("1;2,", 3, 2);
        dueFault("1,2;3,4,5", 7, 2);
        dueFault("1,2;3,4;5,6,7", 11, 2);
        dueFault("1,2,3,4,5,6;1,2,3,4,5,6,7", 23, 2);
    }

    static void thereAreAtMostSixRows() {
        dueNoFault("1;2;3;4;5;6", 6);
        dueFault("1;2;3;4;5;6;7", 11, 2);
        dueFault("1;2;3;4;5;6;", 11, 2);
        dueFault("1,2;1,2;1,2;1,2;1,2;1,2;", 23, 2);
    }

    static void semicolonBehindAShortRowIsAFault() {
        dueFault("1,2;3;4,5", 5, 2);
        dueFault("1,2;3;", 5, 2);
        dueFault("1,2,3;4,5;6", 9, 2);
        dueFault("1,2;3,4;5;6,7", 9, 2);
    }

    static void endBehindAShortRowIsAFault() {
        dueFault("1,2;3", 5, 2);
        dueFault("1,2;34", 6, 2);
        dueFault("1,2;-34", 7, 2);
        dueFault("1,2,3,4,5,6;1,2,3,4,5", 21, 2);
        dueFault("1,2;3,4;5", 9, 2);
    }

    static void seventhRowBehindAShortOneIsAFault() {
        dueFault("1,2;1,2;1,2;1,2;1,2;1;1,2", 21, 2);
    }

    // ---- the first one from the left

    static void faultOnTheLeftComesFirst() {
        dueFault("x1;2,3", 0, 1);
        dueFault("1;2,x", 3, 2);
        dueFault("1;2x,3", 3, 1);
        dueFault("1,2;3;x", 5, 2);
        dueFault("1,2;3x;", 5, 1);
        dueFault("1,2,3,4,5,6,x", 11, 2);
        dueFault("1,2,3,4,5,x,7", 10, 1);
        dueFault("1;2;3;4;5;6;;", 11, 2);
        dueFault("1,,;2", 2, 1);
        dueFault("1,2;;", 4, 1);
    }

    static void missingEntryIsOfReason1AlsoInAShortRow() {
        dueFault("1,2,3;4,;", 8, 1);
        dueFault("1,2;;3,4", 4, 1);
        dueFault("1,2;-;3,4", 5, 1);
        dueFault("1;2,,", 3, 2);
        dueFault("1;-,2", 3, 1);
    }

    // ---- long texts

    // 60 characters: five rows of six entries, and the ";" behind them.
    private static final String FIVE_ROWS = "1,2,3,4,5,6;".repeat(5);

    static void matrixCanHave36Entries() {
        SkewedSquare x = Given.withText(FIVE_ROWS + "1,2,3,4,5,-6");
        due("entries", x.read(0), 36);
        due("rows", x.count(1), 6);
        due("inner length", x.count(2), 6);
        due("the last one", x.entry(0, 5, 5), -6);
    }

    static void textOf80CharactersCanBeAMatrix() {
        String text = FIVE_ROWS + "-11,-12,-13,14,15,-6";
        due("length", text.length(), 80);
        dueNoFault(text, 36);
        SkewedSquare x = Given.withText(text);
        x.read(1);
        due("the last one", x.entry(1, 5, 5), -6);
        due("the one before", x.entry(1, 5, 4), 15);
    }

    static void textOf80CharactersCanEndTooEarly() {
        String text = FIVE_ROWS + "-11,-12,-13,-14,-15,";
        due("length", text.length(), 80);
        dueFault(text, 80, 1);
    }

    static void textOf80CharactersCanEndBehindAShortRow() {
        String text = "-" + FIVE_ROWS + "-11,-12,-13,-14,-15";
        due("length", text.length(), 80);
        dueFault(text, 80, 2);
    }

    static void faultCanStandAtThePlace79() {
        String text = FIVE_ROWS + "-11,-12,-13,14,15,6";
        due("length", text.length(), 79);
        dueFault(text + ",", 79, 2);
        dueFault(text + ";", 79, 2);
        dueFault(text + "x", 79, 1);
        dueNoFault(text + "6", 36);
    }

    // ---- textFault

    static void textFaultIsOfWhat0Or1() {
        SkewedSquare x = Given.withText("1;2,3");
        for (int what : new int[] {-1, 2, Check.LEAST, Check.MOST}) {
            due("textFault(" + what + ")", x.textFault(what), INVALID);
        }
        due("0", x.textFault(0), 3);
        due("1", x.textFault(1), 2);
    }

    static void textFaultIsNotFoundWithoutAFault() {
        SkewedSquare x = Given.withText("1;2");
        due("0", x.textFault(0), NOT_FOUND);
        due("1", x.textFault(1), NOT_FOUND);
    }

    static void textFaultFollowsTheText() {
        SkewedSquare x = new SkewedSquare();
        due("empty", x.textFault(0), 0);
        x.type('1');
        due("1", x.textFault(0), NOT_FOUND);
        x.type(';');
        due("1;", x.textFault(0), 2);
        x.type('x');
        due("1;x", x.textFault(1), 1);
        due("its place", x.textFault(0), 2);
        x.clearText();
        due("empty again", x.textFault(0), 0);
    }

    static void textFaultIsToldAtWorkToo() {
        SkewedSquare x = Given.atWork();
        due("no fault", x.textFault(0), NOT_FOUND);
        x.type('-');
        due("place", x.textFault(0), 7);
        due("reason", x.textFault(1), 1);
    }

    // ---- read

    static void readIsOfWhich0Or1() {
        SkewedSquare x = Given.withText("1,2;3,4");
        for (int which : new int[] {-1, 2, Check.LEAST, Check.MOST}) {
            due("read(" + which + ")", x.read(which), INVALID);
        }
        due("0", x.read(0), 4);
        due("the left one", x.entry(0, 1, 0), 3);
        due("not the right one", x.entry(1, 1, 0), 0);
        due("1", x.read(1), 4);
        due("the right one", x.entry(1, 1, 0), 3);
    }

    static void readLeavesTheText() {
        SkewedSquare x = Given.withText("1,2;3,4");
        x.read(0);
        due("length", x.count(15), 7);
        due("read again", x.read(1), 4);
        x.type('5');
        due("it goes on", x.read(0), 4);
        due("45", x.entry(0, 1, 1), 45);
    }

    static void readIsNotPossibleWhileATileIsBegun() {
        SkewedSquare x = Given.small();
        x.begin(0, 0);
        due("begun", x.read(0), NOT_POSSIBLE);
        x.tick(20);
        due("done", x.read(1), NOT_POSSIBLE);
        x.drain();
        due("drained", x.read(1), 4);
    }

    static void readIsNotPossibleWithAFault() {
        SkewedSquare x = new SkewedSquare();
        due("the empty text, left", x.read(0), NOT_POSSIBLE);
        due("the empty text, right", x.read(1), NOT_POSSIBLE);
        Given.write(x, "1,2;3");
        due("a short row", x.read(0), NOT_POSSIBLE);
        due("no entry of it is taken", x.entry(0, 0, 0), 0);
        x.type(',');
        x.type('4');
        due("mended", x.read(0), 4);
    }

    static void readReturnsHowManyEntries() {
        for (int rows = 1; rows <= 6; rows++) {
            for (int columns = 1; columns <= 6; columns++) {
                String row = "1,2,3,4,5,6".substring(0, 2 * columns - 1);
                SkewedSquare x = Given.withText((row + ";").repeat(rows - 1) + row);
                due(rows + " by " + columns + ", left", x.read(0), rows * columns);
                due("rows", x.count(1), rows);
                due("inner length", x.count(2), columns);
                due("columns", x.count(3), 2);
                due(rows + " by " + columns + ", right", x.read(1), rows * columns);
                due("rows", x.count(1), rows);
                due("inner length", x.count(2), rows);
                due("columns", x.count(3), columns);
            }
        }
    }

    static void leftOneTellsRowsAndInnerLength() {
        SkewedSquare x = Given.small();
        Given.write(x, "1,2,3;4,5,6;7,8,9;-1,-2,-3");
        due("entries", x.read(0), 12);
        due("rows", x.count(1), 4);
        due("inner length", x.count(2), 3);
        due("columns as before", x.count(3), 2);
        due("tiles", x.count(4), 2);
        due("the last one", x.entry(0, 3, 2), -3);
        due("the right one's last", x.entry(1, 2, 1), 0);
        due("behind its rows", x.entry(1, 3, 0), INVALID);
        due("behind its columns", x.entry(1, 0, 2), INVALID);
    }

    static void rightOneTellsInnerLengthAndColumns() {
        SkewedSquare x = Given.small();
        Given.write(x, "1,2,3,4,5;6,7,8,9,10;11,12,13,14,-15");
        due("entries", x.read(1), 15);
        due("rows as before", x.count(1), 2);
        due("inner length", x.count(2), 3);
        due("columns", x.count(3), 5);
        due("tiles", x.count(4), 3);
        due("the last one", x.entry(1, 2, 4), -15);
        due("the left one's last", x.entry(0, 1, 2), 0);
        due("behind its places", x.entry(0, 1, 3), INVALID);
        due("behind its rows", x.entry(0, 2, 0), INVALID);
    }

    static void otherMatrixIs0IfTheInnerLengthBecomesAnotherOne() {
        SkewedSquare x = Given.small();
        Given.write(x, "1,2,3;4,5,6");
        x.read(0);
        for (int p = 0; p < 3; p++) {
            for (int j = 0; j < 2; j++) {
                due("longer: right(" + p + ", " + j + ")", x.entry(1, p, j), 0);
            }
        }
        Given.write(x, "1,2");
        x.read(1);
        due("shorter: the left one", x.entry(0, 0, 0), 0);
        due("shorter: the left one", x.entry(0, 1, 0), 0);
        due("shorter: the right one", x.entry(1, 0, 1), 2);
    }

    static void otherMatrixStaysIfTheInnerLengthStays() {
        SkewedSquare x = Given.small();
        Given.write(x, "9,8;7,6;5,4");
        x.read(0);
        due("the right one", x.entry(1, 0, 0), 5);
        due("its last", x.entry(1, 1, 1), 8);
        Given.write(x, "1;2");
        x.read(1);
        due("the left one", x.entry(0, 0, 0), 9);
        due("its last", x.entry(0, 2, 1), 4);
        due("due", x.result(2, 0, 1), 13);
    }

    static void otherMatrixKeepsItsRowsOrColumnsIfItBecomes0() {
        SkewedSquare x = Given.matrices(2, "1,2,3", "1,2,3,4,5;6,7,8,9,10;11,12,13,14,15");
        Given.write(x, "1,2,3,4,5");
        x.read(0);
        due("inner length", x.count(2), 5);
        due("columns", x.count(3), 5);
        due("the right one is 0", x.entry(1, 0, 0), 0);
        due("the right one's last", x.entry(1, 4, 4), 0);
        Given.write(x, "1,2;3,4;5,6;7,8;9,10;11,12");
        x.read(1);
        due("rows", x.count(1), 1);
        due("inner length", x.count(2), 6);
        due("columns", x.count(3), 2);
        due("the left one is 0", x.entry(0, 0, 0), 0);
        due("the left one's last", x.entry(0, 0, 5), 0);
        due("the left one has one row", x.entry(0, 1, 0), INVALID);
    }

    static void otherMatrixStaysInEveryShapeOfTheSameInnerLength() {
        SkewedSquare x = Given.matrices(2, "1,2,3", "1,2,3,4,5;6,7,8,9,10;11,12,13,14,15");
        Given.write(x, "1,2,3;4,5,6;7,8,9;0,0,1");
        x.read(0);
        due("rows", x.count(1), 4);
        due("columns", x.count(3), 5);
        due("the right one's last", x.entry(1, 2, 4), 15);
        due("due", x.result(3, 4, 1), 15);
        Given.write(x, "1;2;3");
        x.read(1);
        due("rows", x.count(1), 4);
        due("columns", x.count(3), 1);
        due("the left one's last", x.entry(0, 3, 2), 1);
        due("due", x.result(3, 0, 1), 3);
    }

    static void readIntoFewerRowsLeavesNoOldOnes() {
        SkewedSquare x = Given.matrices(2, "1,2;3,4;5,6", "1,2,3;4,5,6");
        Given.write(x, "9,9");
        x.read(0);
        due("rows", x.count(1), 1);
        due("no second row", x.entry(0, 1, 0), INVALID);
        due("no second row of results", x.result(1, 0, 1), INVALID);
        due("columns", x.count(3), 3);
        x.all();
        due("known", x.count(11), 3);
        due("suspect columns", x.suspects(1), 0);
    }

    static void readLeavesFaultsAndTheLeftOutColumn() {
        SkewedSquare x = Given.small();
        x.fault(0, 1, 4);
        x.leave(1);
        Given.write(x, "1,2,3");
        x.read(0);
        due("side", x.count(0), 2);
        due("faulty", x.count(13), 1);
        due("left out", x.count(5), 1);
    }
}
