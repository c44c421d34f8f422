/** Boundary cases of the promises 20 to 22; above each test stands the sentence that it tests. */
public final class WhatIfEdgesTest {
    public static void main(String[] args) {
        dunesAfterNoSteps();
        dunesAfterMostSteps();
        dunesAfterLeastAndGreatestThreshold();
        bestFenceWithoutSteps();
        bestFenceOfTheFirstAndTheLastColumn();
        bestFenceInTheLastRow();
        bestFenceBesideFences();
        bestFenceLeavesFencesOut();
        bestFenceWithoutACell();
        bestFenceAfterMostSteps();
        bestFenceItself();
        bestFenceHasRoomForFifty();
        liveliestWindWithoutSteps();
        liveliestWindOfEachDirection();
        liveliestWindOfSeveral();
        liveliestWindAfterMostSteps();
        nothingChanges();
        Check.end("WhatIfEdgesTest");
    }

    /** "steps: 0 to 1000": after 0 steps there are the dunes of now. */
    private static void dunesAfterNoSteps() {
        SlabDunes x = Texts.field("50000/03000/00000/00400");
        for (int threshold = 1; threshold <= 6; threshold++) {
            Check.equal("dunesAfter(0, " + threshold + ")", x.dunesAfter(0, threshold), x.dunes(threshold));
        }
        Check.equal("three dunes", x.dunesAfter(0, 3), 3);
    }

    /** "steps: 0 to 1000": after 1 step and after 1000 there are the dunes that run() makes. */
    private static void dunesAfterMostSteps() {
        for (int steps : new int[] {1, 999, 1000}) {
            for (int s = 0; s < 8; s++) {
                SlabDunes x = new SlabDunes();
                x.begin(12, 16, 1);
                x.setWind(s % 4, s);
                int answer = x.dunesAfter(steps, 2);
                x.run(steps);
                Check.equal("dunesAfter(" + steps + ", 2)", answer, x.dunes(2));
                Check.that("there are some after many steps", steps == 1 || answer > 1);
            }
        }
    }

    /** "threshold: 1 to 99" */
    private static void dunesAfterLeastAndGreatestThreshold() {
        SlabDunes x = new SlabDunes();
        Check.equal("dunesAfter(1000, 99) without a height", x.dunesAfter(1000, 99), 0);
        x.setHeight(0, 99);
        Check.equal("dunesAfter(0, 99)", x.dunesAfter(0, 99), 1);
        Check.equal("dunesAfter(0, 1)", x.dunesAfter(0, 1), 1);
        x.setWind(0, Chance.seed(60, 0, 0, 99));
        Check.equal("dunesAfter(1, 99) if this cell loses a slab", x.dunesAfter(1, 99), 0);
        Check.equal("dunesAfter(1, 98)", x.dunesAfter(1, 98), 1);
    }

    /** "steps: 0 to 500", "of several the lowest one": without a step each row traps nothing. */
    private static void bestFenceWithoutSteps() {
        SlabDunes x = new SlabDunes();
        for (int column = 0; column < 10; column++) {
            Check.equal("bestFence(" + column + ", 0)", x.bestFence(column, 0), 0);
        }
        SlabDunes bare = new SlabDunes();
        bare.begin(12, 16, 0);
        Check.equal("on bare ground", bare.bestFence(15, 500), 0);
    }

    /** "column: 0 to W - 1": sand in one row alone, and a fence in the first and in the last column of it. */
    private static void bestFenceOfTheFirstAndTheLastColumn() {
        for (int row = 0; row < 4; row++) {
            SlabDunes x = new SlabDunes();
            x.begin(4, 5, 0);
            x.set(3, 5);
            x.setHeight(row * 5 + 2, 5);
            for (int direction = 0; direction < 4; direction += 2) {
                x.setWind(direction, 1);
                Check.equal("the first column, wind " + direction, x.bestFence(0, 200), row);
                Check.equal("the last column, wind " + direction, x.bestFence(4, 200), row);
            }
        }
    }

    /** "Returns the row": it may be the last one, in narrow and in wide fields. */
    private static void bestFenceInTheLastRow() {
        for (int[] size : new int[][] {{3, 3}, {3, 16}, {12, 3}, {12, 16}}) {
            int last = size[0] * size[1] - 1;
            String what = size[0] + " x " + size[1];
            SlabDunes x = new SlabDunes();
            x.begin(size[0], size[1], 0);
            x.set(3, 5);
            x.setHeight(last, 5);
            Check.equal(what + ": the last row", x.bestFence(0, 500), size[0] - 1);
            x.setHeight(last, 0);
            x.setHeight(0, 5);
            Check.equal(what + ": the first row", x.bestFence(size[1] - 1, 500), 0);
        }
    }

    /** "(Cells with a fence are left out.)": the cells of the column alone; fences beside it stay, and trap. */
    private static void bestFenceBesideFences() {
        SlabDunes x = new SlabDunes();
        x.begin(4, 5, 0);
        x.set(3, 5);
        x.setHeight(7, 5);
        x.setHeight(12, 3);
        x.setWind(0, 1);
        Check.equal("more sand in the row 1", x.bestFence(0, 300), 1);
        x.setFence(8, 50);
        Check.equal("a fence takes it before", x.bestFence(0, 300), 2);
        x.setFence(13, 50);
        Check.equal("two fences take all: the lowest row", x.bestFence(0, 300), 0);
    }

    /** "(Cells with a fence are left out.)": full or not, even if the only cell that is left traps nothing. */
    private static void bestFenceLeavesFencesOut() {
        for (int free = 0; free < 6; free++) {
            SlabDunes x = new SlabDunes();
            for (int row = 0; row < 6; row++) {
                if (row != free) {
                    x.setFence(row * 10 + 9, 1 + row * 9);
                }
            }
            x.run(300);
            Check.equal("the only row that is free", x.bestFence(9, 0), free);
            Check.equal("the only row that is free", x.bestFence(9, 500), free);
        }
    }

    /** "NONE if each cell of the column has a fence." */
    private static void bestFenceWithoutACell() {
        SlabDunes x = new SlabDunes();
        x.begin(3, 3, 2);
        for (int row = 0; row < 3; row++) {
            Check.equal("a cell is left", x.bestFence(2, 10) >= row ? 1 : 0, 1);
            x.setFence(row * 3 + 2, 1);
        }
        Check.equal("no cell is left", x.bestFence(2, 0), SlabDunes.NONE);
        Check.equal("no cell is left", x.bestFence(2, 500), SlabDunes.NONE);
        Check.equal("another column has cells", x.bestFence(1, 0), 0);
        x.setFence(8, SlabDunes.NONE);
        Check.equal("one fence is taken away", x.bestFence(2, 500), 2);
        allFenced(3, 16);
        allFenced(12, 3);
        allFenced(12, 16);
    }

    private static void allFenced(int rows, int columns) {
        SlabDunes x = new SlabDunes();
        x.begin(rows, columns, 3);
        for (int row = 0; row < rows; row++) {
            x.setFence(row * columns + columns - 1, 50);
        }
        String what = rows + " x " + columns;
        Check.equal(what + ": no cell is left", x.bestFence(columns - 1, 0), SlabDunes.NONE);
        Check.equal(what + ": no cell is left", x.bestFence(columns - 1, 100), SlabDunes.NONE);
        Check.equal(what + ": the first column has cells", x.bestFence(0, 0), 0);
        x.undo();
        Check.equal(what + ": the last row is free again", x.bestFence(columns - 1, 0), rows - 1);
    }

    /** "steps: 0 to 500": what each row traps in 500 steps, and in 499, as run() tells. */
    private static void bestFenceAfterMostSteps() {
        for (int steps : new int[] {1, 499, 500}) {
            for (int s = 0; s < 6; s++) {
                SlabDunes x = new SlabDunes();
                x.begin(5, 6, 3);
                x.setWind(s % 4, 100 + s);
                int best = SlabDunes.NONE;
                int most = -1;
                for (int row = 0; row < 5; row++) {
                    x.setFence(row * 6 + 5, 50);
                    x.run(steps);
                    if (x.cell(row * 6 + 5, 3) > most) {
                        most = x.cell(row * 6 + 5, 3);
                        best = row;
                    }
                    x.undo();
                    x.undo();
                }
                Check.equal("bestFence(5, " + steps + "), s = " + (100 + s), x.bestFence(5, steps), best);
            }
        }
    }

    /** "in which a new fence .. would itself trap the most slabs": what others trap does not count. */
    private static void bestFenceItself() {
        SlabDunes x = new SlabDunes();
        x.begin(3, 5, 0);
        x.set(3, 5);
        x.setHeight(0, 5);
        x.setHeight(10, 4);
        x.setFence(1, 50);
        x.setWind(0, 1);
        // All sand of the row 0 goes to the fence in the column 1, whatever stands in the column 3.
        Check.equal("the row of the sand that is left", x.bestFence(3, 300), 2);
        SlabDunes y = new SlabDunes();
        y.begin(3, 5, 0);
        y.set(3, 5);
        y.setHeight(0, 5);
        y.setHeight(5, 3);
        y.setFence(4, 50);
        y.setWind(0, 1);
        // In the row 0 it takes 5 slabs from the other fence; in the row 1 it would take 3, but 8 with those of the other.
        Check.equal("the row with the most sand before another fence", y.bestFence(3, 300), 0);
        y.setHeight(0, 2);
        Check.equal("less sand there", y.bestFence(3, 300), 1);
    }

    /** "a new fence with the capacity 50": it takes a fiftieth slab, and not one more. */
    private static void bestFenceHasRoomForFifty() {
        int fortyNineBefore = 0;
        int fiftyBefore = 0;
        for (int steps = 200; steps <= 500; steps += 4) {
            SlabDunes x = new SlabDunes();
            x.begin(3, 3, 20);
            x.set(0, 1);
            x.set(3, 1);
            int[] trapped = trappedIn(x, steps, 50);
            boolean full = trapped[1] == 50 || trapped[2] == 50;
            if (trapped[0] == 49 && full) {
                fortyNineBefore++;
                Check.equal("50 are more than 49, " + steps, x.bestFence(1, steps), trapped[1] == 50 ? 1 : 2);
            }
            if (trapped[0] == 50 && full) {
                fiftyBefore++;
                Check.equal("of several full ones the first row, " + steps, x.bestFence(1, steps), 0);
            }
        }
        Check.that("a row with 49 before one with 50", fortyNineBefore > 0);
        Check.that("a row with 50 before one with 50", fiftyBefore > 10);
    }

    /** What a fence with this capacity traps in each row of the column 1. */
    private static int[] trappedIn(SlabDunes x, int steps, int capacity) {
        int[] trapped = new int[3];
        for (int row = 0; row < 3; row++) {
            x.setFence(row * 3 + 1, capacity);
            x.run(steps);
            trapped[row] = x.cell(row * 3 + 1, 3);
            x.undo();
            x.undo();
        }
        return trapped;
    }

    /** "steps: 0 to 500", "of several the lowest one": without a step no wind lifts, whichever blows now. */
    private static void liveliestWindWithoutSteps() {
        for (int direction = 0; direction < 4; direction++) {
            SlabDunes x = new SlabDunes();
            x.setWind(direction, 5);
            Check.equal("liveliestWind(0)", x.liveliestWind(0), 0);
            x.begin(3, 3, 0);
            x.setWind(direction, 5);
            Check.equal("liveliestWind(500) on bare ground", x.liveliestWind(500), 0);
        }
    }

    /** A field of which these winds alone lift a slab in the first step, for by the others its cell is shaded. */
    private static SlabDunes liftedBy(boolean... winds) {
        int[] upwind = {3, 1, 5, 7};
        SlabDunes x = Texts.field("000/010/000");
        for (int direction = 0; direction < 4; direction++) {
            if (!winds[direction]) {
                x.setHeight(upwind[direction], 2);
            }
        }
        x.setWind(3, Chance.seed(9, 4, 0, 99));
        return x;
    }

    /** "Returns the direction": each of the four may be the best. */
    private static void liveliestWindOfEachDirection() {
        for (int best = 0; best < 4; best++) {
            SlabDunes x = liftedBy(best == 0, best == 1, best == 2, best == 3);
            Check.equal("the only wind that lifts", x.liveliestWind(1), best);
        }
    }

    /** "of several the lowest one" */
    private static void liveliestWindOfSeveral() {
        Check.equal("all", liftedBy(true, true, true, true).liveliestWind(1), 0);
        Check.equal("none", liftedBy(false, false, false, false).liveliestWind(1), 0);
        Check.equal("1, 2 and 3", liftedBy(false, true, true, true).liveliestWind(1), 1);
        Check.equal("1 and 3", liftedBy(false, true, false, true).liveliestWind(1), 1);
        Check.equal("2 and 3", liftedBy(false, false, true, true).liveliestWind(1), 2);
        Check.equal("0 and 3", liftedBy(true, false, false, true).liveliestWind(1), 0);
    }

    /** "steps: 0 to 500": what each wind lifts in 500 steps, and in 499, as run() tells. */
    private static void liveliestWindAfterMostSteps() {
        for (int steps : new int[] {1, 499, 500}) {
            for (int s = 0; s < 12; s++) {
                SlabDunes x = new SlabDunes();
                x.begin(3 + s % 4, 4 + s, 3);
                x.setHeight(s % 12, 20);
                int best = SlabDunes.NONE;
                int most = -1;
                for (int direction = 0; direction < 4; direction++) {
                    x.setWind(direction, 500 + s);
                    int lifted = x.run(steps);
                    if (lifted > most) {
                        most = lifted;
                        best = direction;
                    }
                    x.undo();
                }
                Check.equal("liveliestWind(" + steps + "), s = " + (500 + s), x.liveliestWind(steps), best);
            }
        }
    }

    /** What if: the field, the saved states and the text are as before, after the least and after the most steps. */
    private static void nothingChanges() {
        String small = Whole.of(Busy.small());
        String great = Whole.of(Busy.great());
        for (int steps : new int[] {0, 1, 500}) {
            SlabDunes x = Busy.small();
            asked(x, steps, 3);
            Texts.same("a small field after questions", Whole.of(x), small);
            SlabDunes y = Busy.great();
            asked(y, steps, 15);
            Texts.same("a great field after questions", Whole.of(y), great);
        }
    }

    private static void asked(SlabDunes x, int steps, int lastColumn) {
        x.dunesAfter(2 * steps, 1);
        x.dunesAfter(2 * steps, 99);
        x.bestFence(0, steps);
        x.bestFence(lastColumn, steps);
        x.liveliestWind(steps);
    }
}
