import java.util.List;
import java.util.function.Supplier;
import java.util.function.ToIntFunction;

// "Changes and errors" in the section "Terms": a test for each sentence, and for each call.
public final class ChangesTest {
    private static final int INVALID = Check.INVALID;
    private static final int NOT_POSSIBLE = Check.NOT_POSSIBLE;
    private static final int LIMIT = Check.LIMIT;
    private static final int NOT_FOUND = Check.NOT_FOUND;
    private static final int MOST_STATES = 4;
    private static final int PROMISED_CALLS = 512;
    // As many calls as the longest way to a state takes, with some to spare.
    private static final int CALLS_BEFORE_LOOKS = 100;

    private ChangesTest() {
    }

    public static void main(String[] args) {
        Check.runTestsOf(ChangesTest.class);
    }

    private static void due(String what, long got, long want) {
        Check.due(what, got, want);
    }

    private static boolean isError(int answer) {
        return answer == INVALID || answer == NOT_POSSIBLE || answer == LIMIT || answer == NOT_FOUND;
    }

    // ---- what a change records

    private static void dueRecorded(Supplier<SkewedSquare> maker, ToIntFunction<SkewedSquare> change) {
        SkewedSquare x = maker.get();
        Look before = Look.at(x);
        int states = x.count(14);
        Check.truth("the change is none that is refused", !isError(change.applyAsInt(x)));
        int now = Math.min(states + 1, MOST_STATES);
        due("states behind it", x.count(14), now);
        due("undo", x.undo(), now - 1);
        Look.dueSame("behind undo", Look.at(x), before, states < MOST_STATES);
    }

    private static void dueRecordedIfKnownOrNot(ToIntFunction<SkewedSquare> change) {
        dueRecorded(SkewedSquare::new, change);
        dueRecorded(Given::small, change);
        dueRecorded(Given::allKnown, change);
        dueRecorded(ChangesTest::withFaults, change);
    }

    private static SkewedSquare withFaults() {
        SkewedSquare x = Given.small();
        x.fault(0, 0, 3);
        x.fault(1, 1, 2);
        x.fault(1, 2, 1);
        x.leave(0);
        x.all();
        return x;
    }

    static void sideIsRecorded() {
        dueRecordedIfKnownOrNot(x -> x.side(3));
        dueRecordedIfKnownOrNot(x -> x.side(2));
        dueRecorded(Given::atWork, x -> x.side(1));
        dueRecorded(Given::tileDone, x -> x.side(4));
    }

    static void shapeIsRecorded() {
        dueRecordedIfKnownOrNot(x -> x.shape(2, 2, 2));
        dueRecordedIfKnownOrNot(x -> x.shape(1, 3, 4));
        dueRecorded(Given::atWork, x -> x.shape(1, 1, 1));
        dueRecorded(Given::tileDone, x -> x.shape(2, 2, 2));
    }

    static void leftIsRecorded() {
        dueRecordedIfKnownOrNot(x -> x.left(1, 1, 9));
        dueRecordedIfKnownOrNot(x -> x.left(1, 1, x.entry(0, 1, 1)));
    }

    static void rightIsRecorded() {
        dueRecordedIfKnownOrNot(x -> x.right(1, 1, 9));
        dueRecordedIfKnownOrNot(x -> x.right(1, 1, x.entry(1, 1, 1)));
    }

    static void faultIsRecorded() {
        dueRecordedIfKnownOrNot(x -> x.fault(1, 1, 4));
        dueRecordedIfKnownOrNot(x -> x.fault(0, 0, 0));
    }

    static void leaveIsRecorded() {
        dueRecordedIfKnownOrNot(x -> x.leave(1));
        dueRecordedIfKnownOrNot(x -> x.leave(x.count(5)));
    }

    static void beginIsRecorded() {
        dueRecordedIfKnownOrNot(x -> x.begin(0, 0));
    }

    static void tickIsRecorded() {
        dueRecorded(ChangesTest::begun, x -> x.tick(1));
        dueRecorded(Given::atWork, x -> x.tick(1));
        dueRecorded(Given::atWork, x -> x.tick(20));
    }

    static void drainIsRecorded() {
        dueRecorded(Given::tileDone, SkewedSquare::drain);
        dueRecorded(ChangesTest::doneWithKnownOnes, SkewedSquare::drain);
    }

    static void allIsRecorded() {
        dueRecordedIfKnownOrNot(SkewedSquare::all);
    }

    static void readIsRecorded() {
        dueRecorded(Given::small, x -> x.read(0));
        dueRecorded(Given::small, x -> x.read(1));
        dueRecorded(Given::allKnown, x -> x.read(0));
        dueRecorded(ChangesTest::withShortText, x -> x.read(0));
        dueRecorded(ChangesTest::withShortText, x -> x.read(1));
    }

    private static SkewedSquare begun() {
        SkewedSquare x = Given.small();
        x.begin(0, 0);
        return x;
    }

    private static SkewedSquare doneWithKnownOnes() {
        SkewedSquare x = Given.allKnown();
        x.fault(0, 0, 1);
        x.begin(0, 0);
        x.tick(20);
        return x;
    }

    private static SkewedSquare withShortText() {
        SkewedSquare x = Given.allKnown();
        Given.write(x, "9");
        return x;
    }

    // ---- calls that are no changes

    private static void dueNotRecorded(Supplier<SkewedSquare> maker, ToIntFunction<SkewedSquare> call) {
        SkewedSquare x = maker.get();
        int states = x.count(14);
        call.applyAsInt(x);
        due("states", x.count(14), states);
    }

    static void callsThatOnlyTellRecordNothing() {
        for (Supplier<SkewedSquare> maker : fewStates()) {
            dueNotRecorded(maker, x -> x.entry(0, 0, 0));
            dueNotRecorded(maker, x -> x.cellOf(0, 0, 0));
            dueNotRecorded(maker, x -> x.result(0, 0, 0));
            dueNotRecorded(maker, x -> x.count(0));
            dueNotRecorded(maker, x -> x.suspects(0));
            dueNotRecorded(maker, x -> x.wouldBeWrong(0));
            dueNotRecorded(maker, SkewedSquare::best);
            dueNotRecorded(maker, x -> x.textFault(0));
        }
    }

    static void textsAreNotRecorded() {
        for (Supplier<SkewedSquare> maker : fewStates()) {
            dueNotRecorded(maker, x -> x.type('1'));
            dueNotRecorded(maker, SkewedSquare::clearText);
        }
    }

    private static List<Supplier<SkewedSquare>> fewStates() {
        return List.of(SkewedSquare::new, Given::small, ChangesTest::begunOnce);
    }

    private static SkewedSquare begunOnce() {
        SkewedSquare x = new SkewedSquare();
        x.begin(0, 0);
        x.tick(1);
        return x;
    }

    static void undoIsNotRecorded() {
        SkewedSquare x = Given.small();
        due("states", x.count(14), 3);
        x.undo();
        due("one less", x.count(14), 2);
        due("the next one", x.undo(), 1);
    }

    // What the calls of Look answer doesn't touch anything either.
    static void callsThatOnlyTellChangeNothing() {
        dueLooksChangeNothing(Given::allKnown);
        dueLooksChangeNothing(Given::atWork);
        dueLooksChangeNothing(Given::tileDone);
        dueLooksChangeNothing(ChangesTest::withFaults);
    }

    private static void dueLooksChangeNothing(Supplier<SkewedSquare> maker) {
        SkewedSquare x = maker.get();
        SkewedSquare y = maker.get();
        Look.at(x);
        goOn(x);
        goOn(y);
        Look.at(x);
        due("undo", x.undo(), y.undo());
        Look.dueSame("looked at before or not", Look.at(x), Look.at(y), true);
    }

    private static void goOn(SkewedSquare x) {
        x.tick(1);
        x.drain();
        x.all();
    }

    // ---- the history

    static void historyIsEmptyAtFirst() {
        SkewedSquare x = new SkewedSquare();
        due("states", x.count(14), 0);
        due("undo", x.undo(), NOT_POSSIBLE);
    }

    static void historyKeepsFourStates() {
        SkewedSquare x = new SkewedSquare();
        for (int value = 1; value <= 4; value++) {
            x.left(0, 0, value);
            due("states", x.count(14), value);
        }
        for (int left = 3; left >= 0; left--) {
            due("undo", x.undo(), left);
            due("entry", x.entry(0, 0, 0), left);
        }
        due("empty", x.undo(), NOT_POSSIBLE);
        due("as at first", x.entry(0, 0, 0), 0);
    }

    static void fifthStateDropsTheOldestOne() {
        SkewedSquare x = new SkewedSquare();
        for (int value = 1; value <= 5; value++) {
            x.left(0, 0, value);
        }
        due("states", x.count(14), 4);
        for (int left = 3; left >= 0; left--) {
            due("undo", x.undo(), left);
            due("entry", x.entry(0, 0, 0), left + 1);
        }
        due("the first one was dropped", x.undo(), NOT_POSSIBLE);
        due("entry", x.entry(0, 0, 0), 1);
    }

    static void ofManyStatesTheLastFourAreKept() {
        SkewedSquare x = new SkewedSquare();
        for (int value = 1; value <= 50; value++) {
            x.left(0, 0, value);
            due("states", x.count(14), Math.min(value, 4));
        }
        for (int left = 3; left >= 0; left--) {
            due("undo", x.undo(), left);
            due("entry", x.entry(0, 0, 0), 46 + left);
        }
        due("no more", x.undo(), NOT_POSSIBLE);
    }

    static void changesOfOtherKindsDropTheOldestOneToo() {
        SkewedSquare x = new SkewedSquare();
        x.side(3);
        x.shape(2, 2, 3);
        x.left(0, 0, 7);
        x.right(0, 0, 6);
        x.fault(0, 0, 2);
        x.leave(1);
        x.begin(0, 0);
        x.tick(5);
        x.drain();
        due("undo of drain", x.undo(), 3);
        due("done", x.count(10), 0);
        due("undo of tick", x.undo(), 2);
        due("begun", x.count(9), 0);
        due("undo of begin", x.undo(), 1);
        due("no tile", x.count(6), 0);
        due("undo of leave", x.undo(), 0);
        due("left out", x.count(5), 3);
        due("fault was dropped", x.undo(), NOT_POSSIBLE);
        due("it stays", x.count(13), 1);
    }

    static void changeBehindUndoIsTheLatestState() {
        SkewedSquare x = new SkewedSquare();
        for (int value = 1; value <= 6; value++) {
            x.left(0, 0, value);
        }
        x.undo();
        x.undo();
        due("entry", x.entry(0, 0, 0), 4);
        x.left(0, 0, 20);
        x.left(0, 0, 21);
        x.left(0, 0, 22);
        due("states", x.count(14), 4);
        int[] wants = {21, 20, 4, 3};
        for (int i = 0; i < 4; i++) {
            due("undo", x.undo(), 3 - i);
            due("entry", x.entry(0, 0, 0), wants[i]);
        }
    }

    static void historyCanBeEmptiedAndFilledAgain() {
        SkewedSquare x = new SkewedSquare();
        for (int round = 1; round <= 5; round++) {
            for (int many = 1; many <= round; many++) {
                x.right(1, 1, 10 * round + many);
            }
            due("states", x.count(14), Math.min(round, 4));
            for (int many = Math.min(round, 4); many > 0; many--) {
                due("undo", x.undo(), many - 1);
            }
            due("empty", x.undo(), NOT_POSSIBLE);
        }
        due("the first of five stays", x.entry(1, 1, 1), 51);
    }

    static void textIsNotRestored() {
        SkewedSquare x = new SkewedSquare();
        x.type('1');
        x.left(0, 0, 5);
        x.type(',');
        x.type('2');
        due("undo", x.undo(), 0);
        due("length", x.count(15), 3);
        due("read", x.read(0), 2);
        due("the text", x.entry(0, 0, 1), 2);
    }

    static void clearedTextIsNotRestored() {
        SkewedSquare x = Given.withText("1");
        x.read(0);
        x.clearText();
        x.undo();
        due("length", x.count(15), 0);
        due("place", x.textFault(0), 0);
    }

    static void undoIsPossibleWhileATileIsBegun() {
        SkewedSquare x = Given.atWork();
        due("undo of tick", x.undo(), 3);
        due("begun", x.count(6), 1);
        due("ticks", x.count(9), 0);
        due("undo of begin", x.undo(), 2);
        due("no tile", x.count(6), 0);
    }

    static void undoneTickCanGoByAgain() {
        SkewedSquare x = Given.atWork();
        Look before = Look.at(x);
        x.tick(2);
        x.undo();
        x.undo();
        x.tick(2);
        Look.dueSame("the same ticks again", Look.at(x), before, false);
    }

    // ---- a tile that is not begun, begun, at work, done, drained

    // A sign for each of the five: + no error, P not possible, F not found.
    private static void dueByTile(ToIntFunction<SkewedSquare> call, String signs) {
        String[] names = {"not begun", "begun", "at work", "done", "drained"};
        for (int state = 0; state < names.length; state++) {
            int answer = call.applyAsInt(tileIn(state));
            char sign = signs.charAt(state);
            if (sign == '+') {
                Check.truth(names[state] + ": no error, but " + answer, !isError(answer));
            } else {
                due(names[state], answer, sign == 'P' ? NOT_POSSIBLE : NOT_FOUND);
            }
        }
    }

    private static SkewedSquare tileIn(int state) {
        SkewedSquare x = Given.small();
        if (state >= 1) {
            x.begin(0, 0);
        }
        if (state >= 2) {
            x.tick(1);
        }
        if (state >= 3) {
            x.tick(3);
        }
        if (state >= 4) {
            x.drain();
        }
        return x;
    }

    static void sideByTile() {
        dueByTile(x -> x.side(3), "+++++");
    }

    static void shapeByTile() {
        dueByTile(x -> x.shape(3, 2, 1), "+++++");
    }

    static void leftByTile() {
        dueByTile(x -> x.left(0, 0, 9), "+PPP+");
    }

    static void rightByTile() {
        dueByTile(x -> x.right(0, 0, 9), "+PPP+");
    }

    static void faultByTile() {
        dueByTile(x -> x.fault(0, 0, 1), "+PPP+");
    }

    static void leaveByTile() {
        dueByTile(x -> x.leave(0), "+PPP+");
    }

    static void beginByTile() {
        dueByTile(x -> x.begin(0, 0), "+PPP+");
    }

    static void tickByTile() {
        dueByTile(x -> x.tick(1), "P++PP");
    }

    static void drainByTile() {
        dueByTile(SkewedSquare::drain, "PPP+P");
    }

    static void allByTile() {
        dueByTile(SkewedSquare::all, "+PPP+");
    }

    static void readByTile() {
        dueByTile(x -> x.read(0), "+PPP+");
        dueByTile(x -> x.read(1), "+PPP+");
    }

    static void entryByTile() {
        dueByTile(x -> x.entry(0, 0, 0), "+++++");
    }

    static void cellOfByTile() {
        dueByTile(x -> x.cellOf(0, 0, 0), "P+++P");
        dueByTile(x -> x.cellOf(0, 0, 1), "PF+FP");
        dueByTile(x -> x.cellOf(0, 0, 2), "PF+FP");
        dueByTile(x -> x.cellOf(1, 1, 1), "PFF+P");
        dueByTile(x -> x.cellOf(1, 1, 2), "PFF+P");
        dueByTile(x -> x.cellOf(0, 0, 3), "+++++");
        dueByTile(x -> x.cellOf(0, 0, 4), "+++++");
        dueByTile(x -> x.cellOf(0, 0, 5), "P+++P");
    }

    static void resultByTile() {
        dueByTile(x -> x.result(0, 0, 0), "FFFF+");
        dueByTile(x -> x.result(0, 0, 1), "+++++");
    }

    static void countByTile() {
        for (int what = 0; what <= 15; what++) {
            int number = what;
            dueByTile(x -> x.count(number), what >= 7 && what <= 10 ? "F+++F" : "+++++");
        }
    }

    static void whatIsWrongByTile() {
        dueByTile(x -> x.suspects(0), "+++++");
        dueByTile(x -> x.suspects(1), "+++++");
        dueByTile(x -> x.wouldBeWrong(1), "+++++");
        dueByTile(SkewedSquare::best, "+++++");
        dueByTile(SkewedSquare::undo, "+++++");
    }

    static void textsByTile() {
        dueByTile(x -> x.type('1'), "+++++");
        dueByTile(SkewedSquare::clearText, "+++++");
        dueByTile(x -> x.textFault(0), "FFFFF");
    }

    // ---- the order of errors

    static void constantsAreThose() {
        due("INVALID_ARGUMENT", SkewedSquare.INVALID_ARGUMENT, -1000001);
        due("NOT_POSSIBLE", SkewedSquare.NOT_POSSIBLE, -1000002);
        due("LIMIT_REACHED", SkewedSquare.LIMIT_REACHED, -1000003);
        due("NOT_FOUND", SkewedSquare.NOT_FOUND, -1000004);
    }

    static void leftInvalidRatherThanNotPossible() {
        SkewedSquare x = Given.atWork();
        due("both", x.left(2, 0, 0), INVALID);
        due("both", x.left(0, 2, 0), INVALID);
        due("both", x.left(0, 0, 100), INVALID);
        due("one", x.left(0, 0, 0), NOT_POSSIBLE);
    }

    static void rightInvalidRatherThanNotPossible() {
        SkewedSquare x = Given.atWork();
        due("both", x.right(2, 0, 0), INVALID);
        due("both", x.right(0, 2, 0), INVALID);
        due("both", x.right(0, 0, -100), INVALID);
        due("one", x.right(0, 0, 0), NOT_POSSIBLE);
    }

    static void faultInvalidRatherThanNotPossible() {
        SkewedSquare x = Given.atWork();
        due("both", x.fault(2, 0, 0), INVALID);
        due("both", x.fault(0, 3, 0), INVALID);
        due("both", x.fault(0, 0, 5), INVALID);
        due("one", x.fault(0, 0, 0), NOT_POSSIBLE);
    }

    static void leaveInvalidRatherThanNotPossible() {
        SkewedSquare x = Given.atWork();
        due("both", x.leave(3), INVALID);
        due("both", x.leave(-1), INVALID);
        due("one", x.leave(2), NOT_POSSIBLE);
    }

    static void beginInvalidRatherThanNotPossible() {
        SkewedSquare x = Given.atWork();
        due("both", x.begin(1, 0), INVALID);
        due("both", x.begin(0, 1), INVALID);
        due("one", x.begin(0, 0), NOT_POSSIBLE);
    }

    static void tickInvalidRatherThanNotPossible() {
        SkewedSquare x = Given.small();
        due("no tile, both", x.tick(0), INVALID);
        due("no tile, both", x.tick(21), INVALID);
        due("no tile, one", x.tick(20), NOT_POSSIBLE);
        SkewedSquare y = Given.tileDone();
        due("done, both", y.tick(0), INVALID);
        due("done, both", y.tick(21), INVALID);
        due("done, one", y.tick(1), NOT_POSSIBLE);
    }

    static void readInvalidRatherThanNotPossible() {
        SkewedSquare x = Given.atWork();
        due("begun, both", x.read(2), INVALID);
        due("begun, one", x.read(1), NOT_POSSIBLE);
        SkewedSquare y = new SkewedSquare();
        due("a fault, both", y.read(-1), INVALID);
        due("a fault, one", y.read(0), NOT_POSSIBLE);
    }

    static void cellOfInvalidRatherThanNotPossible() {
        SkewedSquare x = Given.small();
        for (int what : new int[] {0, 1, 2, 5}) {
            due("both", x.cellOf(2, 0, what), INVALID);
            due("both", x.cellOf(0, 2, what), INVALID);
            due("one", x.cellOf(1, 1, what), NOT_POSSIBLE);
        }
        due("both", x.cellOf(0, 0, 6), INVALID);
        due("both", x.cellOf(0, 0, -1), INVALID);
    }

    static void cellOfInvalidRatherThanNotFound() {
        SkewedSquare x = begun();
        due("both", x.cellOf(0, 2, 1), INVALID);
        due("both", x.cellOf(2, 0, 2), INVALID);
        due("one", x.cellOf(0, 1, 1), NOT_FOUND);
    }

    static void cellOfNotPossibleRatherThanNotFound() {
        SkewedSquare x = Given.small();
        due("no tile, to the right", x.cellOf(0, 0, 1), NOT_POSSIBLE);
        due("no tile, down", x.cellOf(0, 0, 2), NOT_POSSIBLE);
        x.begin(0, 0);
        due("begun, to the right", x.cellOf(0, 0, 1), NOT_FOUND);
        due("begun, down", x.cellOf(0, 0, 2), NOT_FOUND);
    }

    static void typeInvalidRatherThanLimit() {
        SkewedSquare x = Given.fullText();
        due("both", x.type(31), INVALID);
        due("both", x.type(127), INVALID);
        due("one", x.type(32), LIMIT);
    }

    static void resultInvalidRatherThanNotFound() {
        SkewedSquare x = Given.small();
        due("both", x.result(2, 0, 0), INVALID);
        due("both", x.result(0, 2, 0), INVALID);
        due("both", x.result(0, 0, -1), INVALID);
        due("one", x.result(0, 0, 0), NOT_FOUND);
    }

    static void textFaultInvalidRatherThanNotFound() {
        SkewedSquare x = Given.withText("1");
        due("both", x.textFault(2), INVALID);
        due("both", x.textFault(-1), INVALID);
        due("one", x.textFault(1), NOT_FOUND);
    }

    static void countInvalidRatherThanNotFound() {
        SkewedSquare x = Given.small();
        due("both", x.count(16), INVALID);
        due("both", x.count(-1), INVALID);
        due("one", x.count(10), NOT_FOUND);
    }

    // ---- a call that returns an error changes nothing

    // Two objects come to the same state; one gets the call too. Then both answer the same,
    // also about all states of their histories and about what their texts hold.
    private static void dueNothing(Supplier<SkewedSquare> maker, int error, ToIntFunction<SkewedSquare> call) {
        SkewedSquare x = maker.get();
        SkewedSquare y = maker.get();
        due("the call", call.applyAsInt(x), error);
        int calls = CALLS_BEFORE_LOOKS + dueTwins("behind it", x, y);
        for (int i = 0; i <= MOST_STATES; i++) {
            int states = y.undo();
            due("undo behind it", x.undo(), states);
            if (!isError(states)) {
                calls += dueTwins("with " + states + " states", x, y);
            }
        }
        x.side(2);
        y.side(2);
        due("read of the text", x.read(0), y.read(0));
        calls += dueTwins("behind read", x, y);
        Check.truth("no more calls than are promised, but " + calls, calls <= PROMISED_CALLS);
    }

    private static int dueTwins(String when, SkewedSquare x, SkewedSquare y) {
        Look look = Look.at(x);
        Look.dueSame(when, look, Look.at(y), true);
        return look.calls();
    }

    static void refusedSideChangesNothing() {
        dueNothing(Given::allKnown, INVALID, x -> x.side(0));
        dueNothing(Given::atWork, INVALID, x -> x.side(5));
        dueNothing(SkewedSquare::new, INVALID, x -> x.side(-1));
    }

    static void refusedShapeChangesNothing() {
        dueNothing(Given::allKnown, INVALID, x -> x.shape(0, 1, 1));
        dueNothing(Given::allKnown, INVALID, x -> x.shape(1, 7, 1));
        dueNothing(Given::atWork, INVALID, x -> x.shape(1, 1, 7));
        dueNothing(SkewedSquare::new, INVALID, x -> x.shape(7, 0, -1));
    }

    static void refusedLeftChangesNothing() {
        dueNothing(Given::allKnown, INVALID, x -> x.left(2, 0, 9));
        dueNothing(Given::allKnown, INVALID, x -> x.left(0, 2, 9));
        dueNothing(Given::allKnown, INVALID, x -> x.left(0, 0, 100));
        dueNothing(SkewedSquare::new, INVALID, x -> x.left(0, -1, 9));
        dueNothing(Given::atWork, NOT_POSSIBLE, x -> x.left(0, 0, 9));
        dueNothing(Given::tileDone, NOT_POSSIBLE, x -> x.left(1, 1, 9));
    }

    static void refusedRightChangesNothing() {
        dueNothing(Given::allKnown, INVALID, x -> x.right(2, 0, 9));
        dueNothing(Given::allKnown, INVALID, x -> x.right(0, 2, 9));
        dueNothing(Given::allKnown, INVALID, x -> x.right(0, 0, -100));
        dueNothing(SkewedSquare::new, INVALID, x -> x.right(-1, 0, 9));
        dueNothing(Given::atWork, NOT_POSSIBLE, x -> x.right(0, 0, 9));
        dueNothing(Given::tileDone, NOT_POSSIBLE, x -> x.right(1, 1, 9));
    }

    static void refusedFaultChangesNothing() {
        dueNothing(Given::allKnown, INVALID, x -> x.fault(2, 0, 1));
        dueNothing(Given::allKnown, INVALID, x -> x.fault(0, 3, 1));
        dueNothing(ChangesTest::withFaults, INVALID, x -> x.fault(0, 0, 5));
        dueNothing(ChangesTest::withFaults, INVALID, x -> x.fault(0, 0, -1));
        dueNothing(Given::atWork, NOT_POSSIBLE, x -> x.fault(0, 0, 1));
        dueNothing(Given::tileDone, NOT_POSSIBLE, x -> x.fault(1, 1, 3));
    }

    static void refusedLeaveChangesNothing() {
        dueNothing(Given::allKnown, INVALID, x -> x.leave(3));
        dueNothing(ChangesTest::withFaults, INVALID, x -> x.leave(-1));
        dueNothing(Given::atWork, NOT_POSSIBLE, x -> x.leave(0));
        dueNothing(Given::tileDone, NOT_POSSIBLE, x -> x.leave(1));
    }

    static void refusedBeginChangesNothing() {
        dueNothing(Given::allKnown, INVALID, x -> x.begin(1, 0));
        dueNothing(Given::allKnown, INVALID, x -> x.begin(0, 1));
        dueNothing(Given::small, INVALID, x -> x.begin(-1, -1));
        dueNothing(Given::atWork, NOT_POSSIBLE, x -> x.begin(0, 0));
        dueNothing(Given::tileDone, NOT_POSSIBLE, x -> x.begin(0, 0));
    }

    static void refusedTickChangesNothing() {
        dueNothing(Given::atWork, INVALID, x -> x.tick(0));
        dueNothing(Given::atWork, INVALID, x -> x.tick(21));
        dueNothing(Given::allKnown, NOT_POSSIBLE, x -> x.tick(1));
        dueNothing(Given::tileDone, NOT_POSSIBLE, x -> x.tick(20));
    }

    static void refusedDrainChangesNothing() {
        dueNothing(Given::allKnown, NOT_POSSIBLE, SkewedSquare::drain);
        dueNothing(ChangesTest::begun, NOT_POSSIBLE, SkewedSquare::drain);
        dueNothing(Given::atWork, NOT_POSSIBLE, SkewedSquare::drain);
    }

    static void refusedAllChangesNothing() {
        dueNothing(ChangesTest::begun, NOT_POSSIBLE, SkewedSquare::all);
        dueNothing(Given::atWork, NOT_POSSIBLE, SkewedSquare::all);
        dueNothing(Given::tileDone, NOT_POSSIBLE, SkewedSquare::all);
    }

    static void refusedEntryChangesNothing() {
        dueNothing(Given::allKnown, INVALID, x -> x.entry(2, 0, 0));
        dueNothing(Given::atWork, INVALID, x -> x.entry(0, 2, 0));
    }

    static void refusedCellOfChangesNothing() {
        dueNothing(Given::atWork, INVALID, x -> x.cellOf(2, 0, 0));
        dueNothing(Given::allKnown, NOT_POSSIBLE, x -> x.cellOf(0, 0, 0));
        dueNothing(Given::atWork, NOT_FOUND, x -> x.cellOf(1, 1, 1));
        dueNothing(Given::atWork, NOT_FOUND, x -> x.cellOf(1, 1, 2));
    }

    static void refusedResultChangesNothing() {
        dueNothing(Given::allKnown, INVALID, x -> x.result(0, 0, 2));
        dueNothing(Given::atWork, NOT_FOUND, x -> x.result(0, 0, 0));
    }

    static void refusedCountChangesNothing() {
        dueNothing(Given::atWork, INVALID, x -> x.count(16));
        dueNothing(Given::allKnown, NOT_FOUND, x -> x.count(9));
    }

    static void refusedSuspectsChangesNothing() {
        dueNothing(ChangesTest::withFaults, INVALID, x -> x.suspects(2));
    }

    static void refusedWouldBeWrongChangesNothing() {
        dueNothing(ChangesTest::withFaults, INVALID, x -> x.wouldBeWrong(3));
        dueNothing(Given::atWork, INVALID, x -> x.wouldBeWrong(-1));
    }

    static void refusedUndoChangesNothing() {
        dueNothing(SkewedSquare::new, NOT_POSSIBLE, SkewedSquare::undo);
        dueNothing(ChangesTest::undoneToTheEnd, NOT_POSSIBLE, SkewedSquare::undo);
    }

    private static SkewedSquare undoneToTheEnd() {
        SkewedSquare x = Given.atWork();
        for (int i = 0; i < MOST_STATES; i++) {
            x.undo();
        }
        return x;
    }

    static void refusedTypeChangesNothing() {
        dueNothing(Given::allKnown, INVALID, x -> x.type(31));
        dueNothing(Given::atWork, INVALID, x -> x.type(127));
        dueNothing(Given::fullText, LIMIT, x -> x.type('1'));
    }

    static void refusedTextFaultChangesNothing() {
        dueNothing(Given::allKnown, INVALID, x -> x.textFault(2));
        dueNothing(Given::allKnown, NOT_FOUND, x -> x.textFault(0));
    }

    static void refusedReadChangesNothing() {
        dueNothing(Given::allKnown, INVALID, x -> x.read(2));
        dueNothing(Given::atWork, NOT_POSSIBLE, x -> x.read(0));
        dueNothing(Given::tileDone, NOT_POSSIBLE, x -> x.read(1));
        dueNothing(ChangesTest::withFaultyText, NOT_POSSIBLE, x -> x.read(0));
        dueNothing(ChangesTest::withFaultyText, NOT_POSSIBLE, x -> x.read(1));
    }

    private static SkewedSquare withFaultyText() {
        SkewedSquare x = Given.allKnown();
        Given.write(x, "9,9;9");
        return x;
    }

    // ---- the 512 calls that an object is used for

    static void lastCallOfOneKindOfChangeIsAnswered() {
        SkewedSquare x = new SkewedSquare();
        for (int call = 1; call <= PROMISED_CALLS; call++) {
            due("call " + call, x.left(0, 1, call % 100), (call - 1) % 100);
        }
    }

    static void lastUndoIsAnswered() {
        SkewedSquare x = new SkewedSquare();
        for (int call = 2; call <= PROMISED_CALLS; call += 2) {
            due("leave before call " + call, x.leave(1), 2);
            due("undo as call " + call, x.undo(), 0);
        }
    }

    static void lastTileIsDrained() {
        SkewedSquare x = new SkewedSquare();
        for (int call = 4; call <= PROMISED_CALLS; call += 4) {
            due("begin before call " + call, x.begin(0, 0), 4);
            due("tick before call " + call, x.tick(1), 3);
            due("tick before call " + call, x.tick(20), 0);
            due("drain as call " + call, x.drain(), 4);
        }
    }

    static void lastCharacterIsTyped() {
        SkewedSquare x = new SkewedSquare();
        for (int call = 1; call <= PROMISED_CALLS; call++) {
            int length = (call - 1) % 82 + 1;
            if (length == 82) {
                due("clearText as call " + call, x.clearText(), 80);
            } else {
                due("type as call " + call, x.type('1'), length <= 80 ? length : LIMIT);
            }
        }
    }

    static void lastBestAndReadAreAnswered() {
        SkewedSquare x = Given.fourTiles();
        int calls = 100;
        x.fault(0, 0, 1);
        while (calls < PROMISED_CALLS - 3) {
            due("best", x.best(), 0);
            due("wouldBeWrong", x.wouldBeWrong(2), 4);
            due("read", x.read(1), 6);
            due("all", x.all(), 12);
            calls += 4;
        }
    }
}
