/** Boundary cases of undo, and of the promises 26 and 27; above each test stands the sentence that it tests. */
public final class StateEdgesTest {
    private interface Deed {
        int on(SlabDunes x);
    }

    /** Each undoable method, as a call that changes a field of 3 rows and 4 columns. */
    private static final Deed[] CHANGES = {
        x -> x.begin(12, 16, 20), x -> x.setHeight(11, 99), x -> x.setTuft(11, 100), x -> x.setFence(11, 50),
        x -> x.set(3, 5), x -> x.setWind(1, 999999), x -> x.run(2000), x -> x.season(), x -> x.parse(),
    };

    /** Each undoable method, as a call that changes nothing but the saved states of a field right after its begin. */
    private static final Deed[] NO_CHANGES = {
        x -> x.begin(3, 3, 1), x -> x.setHeight(8, 1), x -> x.setTuft(0, 0), x -> x.setFence(8, SlabDunes.NONE),
        x -> x.set(0, 3), x -> x.set(1, 60), x -> x.set(2, 40), x -> x.set(3, 2), x -> x.setWind(0, SlabDunes.NONE),
        x -> x.setWind(0, 1), x -> x.run(0), x -> x.parse(),
    };

    private static final Deed[] QUESTIONS = {
        x -> x.value(0), x -> x.cell(0, 0), x -> x.count(0), x -> x.latest(0), x -> x.slabs(), x -> x.relief(0),
        x -> (int) x.shadowHeight(), x -> x.dunes(1), x -> x.greatestDune(1), x -> x.duneOf(0, 1),
        x -> x.dunesAfter(100, 1), x -> x.bestFence(0, 100), x -> x.liveliestWind(100), x -> (int) x.digest(),
    };

    public static void main(String[] args) {
        nothingSaved();
        upToFourStates();
        oldestIsDroppedFirst();
        eachChangeIsUndone();
        eachChangeWithFourStates();
        eachCallThatChangesNothing();
        eachQuestion();
        undoIsNotUndoable();
        savedAgainAfterUndo();
        fiveHundredSavedStates();
        fieldsOfAllSizesComeBack();
        everythingExceptTheText();
        digestOfANewObject();
        digestOfTheText();
        digestOfTheSavedStates();
        digestOfEachSize();
        digestOfDunes();
        Check.end("StateEdgesTest");
    }

    private static SlabDunes saved(int states) {
        SlabDunes x = new SlabDunes();
        for (int state = 1; state <= states; state++) {
            x.setHeight(0, 10 + state);
        }
        return x;
    }

    /** "IllegalStateException if there is no saved state" */
    private static void nothingSaved() {
        SlabDunes x = new SlabDunes();
        Texts.same("undo of a new object", Check.outcome(() -> x.undo()), "IllegalStateException");
        x.setHeight(0, 5);
        Check.equal("undo", x.undo(), 0);
        Texts.same("undo once more", Check.outcome(() -> x.undo()), "IllegalStateException");
        Texts.same("and once more", Check.outcome(() -> x.undo()), "IllegalStateException");
        Check.equal("the field is as it was", x.cell(0, 0), 2);
    }

    /** "at most 4 states are saved", "Returns the number of saved states that remain." */
    private static void upToFourStates() {
        for (int states = 0; states <= 9; states++) {
            SlabDunes x = saved(states);
            for (int left = Math.min(states, 4) - 1; left >= 0; left--) {
                Check.equal("undo after " + states + " calls", x.undo(), left);
            }
            Texts.same("one more after " + states + " calls", Check.outcome(() -> x.undo()), "IllegalStateException");
        }
    }

    /** "and the oldest is dropped first" */
    private static void oldestIsDroppedFirst() {
        for (int states = 4; states <= 9; states++) {
            SlabDunes x = saved(states);
            for (int back = 1; back <= 4; back++) {
                x.undo();
                int height = states - back == 0 ? 2 : 10 + states - back;
                Check.equal("after " + states + " calls, " + back + " back", x.cell(0, 0), height);
            }
        }
    }

    /** A field of 12 cells with fewer than four saved states and with a field text. */
    private static SlabDunes lively(int undone) {
        SlabDunes x = Busy.small();
        x.append('9');
        for (int k = 0; k < undone; k++) {
            x.undo();
        }
        return x;
    }

    /** "saves the state from before the call": with 0 to 3 states that were saved before. */
    private static void eachChangeIsUndone() {
        for (int undone = 1; undone <= 4; undone++) {
            String untouched = Whole.of(lively(undone));
            for (int k = 0; k < CHANGES.length; k++) {
                SlabDunes x = lively(undone);
                long before = x.digest();
                CHANGES[k].on(x);
                Check.that("the call " + k + " changes the field", x.digest() != before && x.digest() != before + 1);
                Check.equal("undo of the call " + k, x.undo(), 4 - undone);
                Texts.same("the object after it", Whole.of(x), untouched);
            }
        }
    }

    /** The hash of all but the saved states: their number is what digest() adds last. */
    private static long stateOf(SlabDunes x, int saved) {
        return x.digest() - saved;
    }

    /** A call with four saved states drops the oldest one, and the three others stay. */
    private static void eachChangeWithFourStates() {
        SlabDunes twin = lively(0);
        long[] states = new long[4];
        for (int back = 0; back < 4; back++) {
            states[back] = stateOf(twin, 4 - back);
            Check.equal("undo of the twin", twin.undo(), 3 - back);
        }
        for (int k = 0; k < CHANGES.length; k++) {
            SlabDunes x = lively(0);
            CHANGES[k].on(x);
            for (int back = 0; back < 4; back++) {
                Check.equal("undo after the call " + k, x.undo(), 3 - back);
                Check.equal("the state " + back + " back", stateOf(x, 3 - back), states[back]);
            }
            Texts.same("a fifth undo", Check.outcome(() -> x.undo()), "IllegalStateException");
        }
    }

    /** "even if the call changes nothing" */
    private static void eachCallThatChangesNothing() {
        for (int k = 0; k < NO_CHANGES.length; k++) {
            SlabDunes x = new SlabDunes();
            Texts.append(x, "111/111/111");
            x.setHeight(0, 50);
            x.begin(3, 3, 1);
            long state = stateOf(x, 2);
            for (int call = 1; call <= 4; call++) {
                NO_CHANGES[k].on(x);
                Check.equal("the call " + k + " changes nothing", stateOf(x, Math.min(4, 2 + call)), state);
            }
            for (int left = 3; left >= 0; left--) {
                Check.equal("but each one is undone", x.undo(), left);
                Check.equal("to the same state", stateOf(x, left), state);
            }
            Texts.same("the older ones are dropped", Check.outcome(() -> x.undo()), "IllegalStateException");
        }
    }

    /** Calls whose description does not say "undoable" save nothing and drop nothing. */
    private static void eachQuestion() {
        String untouched = Whole.of(Busy.small());
        for (int k = 0; k < QUESTIONS.length; k++) {
            SlabDunes x = Busy.small();
            QUESTIONS[k].on(x);
            QUESTIONS[k].on(x);
            Texts.same("the object after the question " + k, Whole.of(x), untouched);
            SlabDunes y = new SlabDunes();
            QUESTIONS[k].on(y);
            Texts.same("undo after the question " + k, Check.outcome(() -> y.undo()), "IllegalStateException");
        }
        SlabDunes x = new SlabDunes();
        x.append('1');
        x.clearText();
        Texts.same("undo after append and clearText", Check.outcome(() -> x.undo()), "IllegalStateException");
    }

    /** "Restores the most recently saved state and removes it": undo itself saves nothing. */
    private static void undoIsNotUndoable() {
        SlabDunes x = saved(3);
        Check.equal("undo", x.undo(), 2);
        Check.equal("the height", x.cell(0, 0), 12);
        Check.equal("undo goes further back", x.undo(), 1);
        Check.equal("the height", x.cell(0, 0), 11);
        Check.equal("undo goes further back", x.undo(), 0);
        Check.equal("the height", x.cell(0, 0), 2);
    }

    /** After undo there is room again: the states that were undone are gone, the older ones stay. */
    private static void savedAgainAfterUndo() {
        for (int undone = 1; undone <= 4; undone++) {
            SlabDunes x = saved(7);
            for (int k = 0; k < undone; k++) {
                x.undo();
            }
            for (int k = 0; k < undone; k++) {
                x.setHeight(0, 50 + k);
            }
            for (int back = 1; back <= 4; back++) {
                Check.equal("undo", x.undo(), 4 - back);
                int due = back < undone ? 50 + undone - back - 1 : 17 - back;
                Check.equal(undone + " undone, " + back + " back", x.cell(0, 0), due);
            }
        }
    }

    /** An object is used for at most 512 calls: 500 of them may save states. */
    private static void fiveHundredSavedStates() {
        SlabDunes x = new SlabDunes();
        for (int call = 0; call < 500; call++) {
            x.setHeight(59, call % 100);
        }
        for (int back = 1; back <= 4; back++) {
            Check.equal("undo", x.undo(), 4 - back);
            Check.equal("the height", x.cell(59, 0), 99 - back);
        }
        Texts.same("a fifth undo", Check.outcome(() -> x.undo()), "IllegalStateException");
    }

    /** "everything": also the numbers of rows and columns, and the last cell of the greatest field. */
    private static void fieldsOfAllSizesComeBack() {
        SlabDunes x = new SlabDunes();
        x.begin(12, 16, 20);
        x.setHeight(191, 99);
        x.setTuft(191, 100);
        x.setFence(191, 50);
        x.begin(3, 3, 0);
        x.begin(12, 3, 1);
        x.begin(3, 16, 2);
        Check.equal("undo", x.undo(), 3);
        Check.equal("rows", x.value(4), 12);
        Check.equal("columns", x.value(5), 3);
        Check.equal("slabs", x.slabs(), 36);
        Check.equal("undo", x.undo(), 2);
        Check.equal("rows", x.value(4), 3);
        Check.equal("slabs", x.slabs(), 0);
        Check.equal("undo", x.undo(), 1);
        int[] due = {99, 100, 50, 0, 0, 0};
        for (int what = 0; what < due.length; what++) {
            Check.equal("cell(191, " + what + ")", x.cell(191, what), due[what]);
        }
        Check.equal("undo", x.undo(), 0);
        Check.equal("before the fence", x.cell(191, 2), SlabDunes.NONE);
    }

    /** "The saved state contains everything except the field text." Each thing that begin() changes comes back. */
    private static void everythingExceptTheText() {
        SlabDunes x = Busy.small();
        x.set(1, 61);
        x.set(2, 41);
        x.set(3, 3);
        x.run(30);
        SlabDunes y = Busy.small();
        y.set(1, 61);
        y.set(2, 41);
        y.set(3, 3);
        y.run(30);
        y.begin(3, 4, 5);
        y.clearText();
        y.append('1');
        y.undo();
        for (int what = 0; what <= 8; what++) {
            Check.equal("value(" + what + ")", y.value(what), x.value(what));
        }
        for (int cell = 0; cell < 12; cell++) {
            for (int what = 0; what <= 5; what++) {
                Check.equal("cell(" + cell + ", " + what + ")", y.cell(cell, what), x.cell(cell, what));
            }
        }
        for (int what = 0; what <= 11; what++) {
            Check.equal("count(" + what + ")", y.count(what), x.count(what));
        }
        Texts.same("the latest step", Texts.latest(y), Texts.latest(x));
        Check.equal("the text does not come back", y.clearText(), 1);
    }

    /** "Start with h = 3301", "set h = 31 * h + v": all values of a new object, as the document tells them. */
    private static void digestOfANewObject() {
        long h = 3301;
        h = 31 * h;
        for (int v : new int[] {3, 60, 40, 2, 6, 10, 0, 1, 0}) {
            h = 31 * h + v;
        }
        for (int cell = 0; cell < 60; cell++) {
            for (int v : new int[] {2, 0, -1, -1, 0, 0}) {
                h = 31 * h + v;
            }
        }
        for (int count = 0; count < 12; count++) {
            h = 31 * h;
        }
        for (int latest = 0; latest < 4; latest++) {
            h = 31 * h - 1;
        }
        for (int dunes : new int[] {1, 1, 0, 0, 0}) {
            h = 31 * h + dunes;
        }
        h = 31 * h;
        Check.equal("digest of a new object", new SlabDunes().digest(), h);
    }

    /** "the length of the text": 0 to 220; not its bytes. */
    private static void digestOfTheText() {
        for (int length : new int[] {0, 1, 219, 220}) {
            Fresh.Maker maker = () -> withText(length);
            Check.equal("digest with " + length + " bytes", maker.make().digest(), new Fresh(maker).hash(length, 0));
        }
        SlabDunes x = withText(3);
        SlabDunes y = new SlabDunes();
        Texts.append(y, "xyz");
        Check.equal("other bytes", y.digest(), x.digest());
        y.clearText();
        Check.equal("the emptied text", y.digest(), new SlabDunes().digest());
    }

    private static SlabDunes withText(int length) {
        SlabDunes x = new SlabDunes();
        for (int k = 0; k < length; k++) {
            x.append('1');
        }
        return x;
    }

    /** "the number of saved states": 0 to 4, and the last thing of all. */
    private static void digestOfTheSavedStates() {
        SlabDunes x = new SlabDunes();
        long none = x.digest();
        for (int calls = 1; calls <= 6; calls++) {
            x.run(0);
            Check.equal("digest after " + calls + " calls", x.digest(), none + Math.min(calls, 4));
        }
        for (int left = 3; left >= 0; left--) {
            x.undo();
            Check.equal("digest with " + left + " saved states", x.digest(), none + left);
        }
    }

    /** "for each cell the values of cell() for what = 0 to 5": of the least and the greatest field, by each wind. */
    private static void digestOfEachSize() {
        for (int[] size : new int[][] {{3, 3}, {3, 16}, {12, 3}, {12, 16}}) {
            for (int direction = 0; direction < 4; direction++) {
                int wind = direction;
                Fresh.Maker maker = () -> blown(size[0], size[1], wind);
                String what = "digest of " + size[0] + " x " + size[1] + ", wind " + wind;
                Check.equal(what, maker.make().digest(), new Fresh(maker).hash(0, 4));
            }
        }
    }

    private static SlabDunes blown(int rows, int columns, int direction) {
        SlabDunes x = new SlabDunes();
        x.begin(rows, columns, 3);
        x.setTuft(0, 100);
        x.setFence(rows * columns - 1, 5);
        x.setWind(direction, 31);
        x.run(150);
        x.season();
        x.run(150);
        return x;
    }

    /** "dunes() for the thresholds 1 to 5": heights of 0 to 6, of which those of 5 and 6 make the same dunes. */
    private static void digestOfDunes() {
        for (String text : new String[] {"000000/010203/000000/040506/000000", "111/111/111", "000/000/000"}) {
            Fresh.Maker maker = () -> Texts.field(text);
            Check.equal("digest of " + text, maker.make().digest(), new Fresh(maker).hash(text.length(), 1));
        }
    }
}
