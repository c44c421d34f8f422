/** Boundary cases of the promises 10, 11, 14 and 15; above each test stands the sentence that it tests. */
public final class ValueEdgesTest {
    public static void main(String[] args) {
        eachValue();
        greatestValueOfS();
        seasonsThatHaveEnded();
        valuesAfterParse();
        eachNumberOfACell();
        noFence();
        growthOfACell();
        slabsOfTheLeastField();
        slabsOfTheGreatestField();
        slabsInEveryCell();
        greatestHeight();
        lowestCellOfSeveral();
        cellsOfTheFieldAlone();
        differenceOverEachEdge();
        differenceOfEachPair();
        differenceWithoutAny();
        cellsInARowOfNumbers();
        heightsOfZero();
        heightsOfNow();
        heightsOfNowAfterManySteps();
        Check.end("ValueEdgesTest");
    }

    /** "what: 0 to 3 the settings, 4 .. rows, 5 .. columns, 6 the direction .., 7 the number s, 8 .. seasons" */
    private static void eachValue() {
        SlabDunes x = new SlabDunes();
        int[] due = {3, 60, 40, 2, 6, 10, 0, 1, 0};
        same("initially", x, due);
        x.begin(12, 3, 0);
        due[4] = 12;
        due[5] = 3;
        same("begin", x, due);
        int[] most = {8, 100, 100, 5};
        for (int what = 0; what < 4; what++) {
            x.set(what, most[what]);
            due[what] = most[what];
            same("set", x, due);
        }
        x.setWind(3, 999999);
        due[6] = 3;
        due[7] = 999999;
        same("setWind", x, due);
        x.season();
        due[8] = 1;
        same("season", x, due);
    }

    private static void same(String when, SlabDunes x, int[] due) {
        for (int what = 0; what < 9; what++) {
            Check.equal(when + ": value(" + what + ")", x.value(what), due[what]);
        }
    }

    /** "s becomes (1103515245 * s + 12345) modulo 2147483648": it is never negative, and above 2000000000 now and then. */
    private static void greatestValueOfS() {
        SlabDunes x = new SlabDunes();
        x.begin(3, 3, 0);
        x.setWind(0, 999999);
        Chance chance = new Chance(999999);
        int greatest = 0;
        for (int numbers = 1; numbers <= 150; numbers++) {
            x.run(1);
            int cell = chance.draw(9);
            int s = x.value(7);
            Check.equal("s after " + numbers + " numbers", s, chance.s());
            Check.equal("the cell", x.latest(1), cell);
            greatest = Math.max(greatest, s);
        }
        Check.that("a great s", greatest > 2000000000);
    }

    /** "8 the number of seasons that have ended": as many as there were calls, and none after begin() and parse(). */
    private static void seasonsThatHaveEnded() {
        SlabDunes x = new SlabDunes();
        Texts.append(x, "111/111/111");
        for (int k = 1; k <= 200; k++) {
            x.season();
            Check.equal("seasons", x.value(8), k);
        }
        x.begin(3, 3, 0);
        Check.equal("seasons after begin", x.value(8), 0);
        x.undo();
        Check.equal("seasons after undo", x.value(8), 200);
        x.parse();
        Check.equal("seasons after parse", x.value(8), 0);
    }

    /** "otherwise as by begin(), but for the settings, the wind and s, which stay" */
    private static void valuesAfterParse() {
        SlabDunes x = new SlabDunes();
        Texts.append(x, Texts.rows(12, "1111111111111111"));
        x.set(0, 8);
        x.set(1, 0);
        x.set(2, 100);
        x.set(3, 5);
        x.setWind(3, 999999);
        x.run(1);
        int s = x.value(7);
        Check.that("s is above what can be set", s > 999999);
        Check.equal("parse", x.parse(), 192);
        same("parse", x, new int[] {8, 0, 100, 5, 12, 16, 3, s, 0});
        x.begin(12, 16, 1);
        same("begin", x, new int[] {3, 60, 40, 2, 12, 16, 0, 1, 0});
    }

    /** "what: 0 its height, 1 its tuft, 2 the capacity .., 3 .. trapped .., 4 .. shadow .., 5 .." of each cell by itself. */
    private static void eachNumberOfACell() {
        SlabDunes x = new SlabDunes();
        x.begin(3, 4, 1);
        for (int cell = 0; cell < 12; cell++) {
            x.setHeight(cell, 30 - cell);
            x.setTuft(cell, 50 + cell);
            x.setFence(cell, 1 + cell);
        }
        for (int cell = 0; cell < 12; cell++) {
            int[] due = {30 - cell, 50 + cell, 1 + cell, 0, cell % 4 == 0 ? 0 : 1, 0};
            for (int what = 0; what < 6; what++) {
                Check.equal("cell(" + cell + ", " + what + ")", x.cell(cell, what), due[what]);
            }
        }
    }

    /** "(NONE without one)": a fence that has trapped nothing has trapped 0. */
    private static void noFence() {
        SlabDunes x = new SlabDunes();
        for (int cell : new int[] {0, 59}) {
            Check.equal("capacity without a fence", x.cell(cell, 2), SlabDunes.NONE);
            Check.equal("trapped without a fence", x.cell(cell, 3), SlabDunes.NONE);
            x.setFence(cell, 50);
            Check.equal("capacity", x.cell(cell, 2), 50);
            Check.equal("trapped", x.cell(cell, 3), 0);
            x.undo();
            Check.equal("capacity after undo", x.cell(cell, 2), SlabDunes.NONE);
            Check.equal("trapped after undo", x.cell(cell, 3), SlabDunes.NONE);
        }
    }

    /** "5 its height minus that at the end of the season before": below 0 and above 0. */
    private static void growthOfACell() {
        for (int growth = -3; growth <= 3; growth++) {
            SlabDunes x = Grown.by(growth, 0);
            Check.equal("growth", x.cell(4, 5), growth);
            Check.equal("height", x.cell(4, 0), 5 + growth);
            x.season();
            Check.equal("growth after the season", x.cell(4, 5), 0);
            x.undo();
            Check.equal("growth after undo", x.cell(4, 5), growth);
        }
    }

    /** "Returns the sum of all heights.": 0 without any. */
    private static void slabsOfTheLeastField() {
        SlabDunes x = new SlabDunes();
        x.begin(3, 3, 0);
        Check.equal("no slabs", x.slabs(), 0);
        x.setHeight(8, 1);
        Check.equal("one slab in the last cell", x.slabs(), 1);
        x.setHeight(0, 1);
        Check.equal("one more in the first cell", x.slabs(), 2);
    }

    /** The greatest sum that can be set: 192 cells of 99. */
    private static void slabsOfTheGreatestField() {
        SlabDunes x = new SlabDunes();
        x.begin(12, 16, 20);
        Check.equal("192 cells of 20", x.slabs(), 3840);
        for (int cell = 0; cell < 192; cell++) {
            x.setHeight(cell, 99);
        }
        Check.equal("192 cells of 99", x.slabs(), 19008);
        Check.equal("they are one dune", x.greatestDune(99), 19008);
        x.begin(3, 3, 0);
        Check.equal("nothing is left of it", x.slabs(), 0);
    }

    /** "Returns the number of slabs on the field": those that fences have trapped, too; no step makes or loses one. */
    private static void slabsInEveryCell() {
        for (int direction = 0; direction < 4; direction++) {
            SlabDunes x = new SlabDunes();
            x.begin(5, 7, 3);
            x.setWind(direction, 77);
            x.setFence(0, 50);
            x.setFence(34, 50);
            for (int k = 0; k < 10; k++) {
                x.run(200);
                Check.equal("slabs, wind " + direction, x.slabs(), 105);
            }
        }
    }

    private static void relief(String text, int greatest, int lowest, int difference, int bare) {
        SlabDunes x = Texts.field(text);
        Check.equal(text + ": relief(0)", x.relief(0), greatest);
        Check.equal(text + ": relief(1)", x.relief(1), lowest);
        Check.equal(text + ": relief(2)", x.relief(2), difference);
        Check.equal(text + ": relief(3)", x.relief(3), bare);
    }

    /** "0 the greatest height": in the first cell, the last one, in all, and 0 on a bare field. */
    private static void greatestHeight() {
        relief("000/000/000", 0, 0, 0, 9);
        relief("100/000/000", 1, 0, 1, 8);
        relief("000/000/001", 1, 8, 1, 8);
        relief("999/999/999", 9, 0, 0, 0);
        relief("888/888/889", 9, 8, 1, 0);
    }

    /** "1 the lowest cell that has it": of several the one with the lowest number. */
    private static void lowestCellOfSeveral() {
        relief("011/111/111", 1, 1, 1, 1);
        relief("000/000/011", 1, 7, 1, 7);
        relief("0003/0030/0300", 3, 3, 3, 9);
        relief("3000/0000/0003", 3, 0, 3, 10);
        SlabDunes x = new SlabDunes();
        x.begin(12, 16, 20);
        Check.equal("of 192 cells", x.relief(1), 0);
        x.setHeight(191, 21);
        Check.equal("the last one", x.relief(1), 191);
        x.setHeight(190, 21);
        Check.equal("the one before", x.relief(1), 190);
        x.setHeight(0, 21);
        Check.equal("the first one", x.relief(1), 0);
    }

    /** "0 the greatest height, 1 the lowest cell that has it": what greater fields had before does not matter. */
    private static void cellsOfTheFieldAlone() {
        SlabDunes x = new SlabDunes();
        x.begin(12, 16, 20);
        x.setHeight(9, 99);
        x.setHeight(191, 99);
        x.begin(3, 3, 20);
        for (int cell = 0; cell < 9; cell++) {
            x.setHeight(cell, cell == 4 ? 2 : 1);
        }
        Check.equal("the greatest height", x.relief(0), 2);
        Check.equal("its cell", x.relief(1), 4);
        Check.equal("the difference", x.relief(2), 1);
        Check.equal("bare cells", x.relief(3), 0);
        Check.equal("slabs", x.slabs(), 10);
        Check.equal("dunes", x.dunes(1), 1);
        Check.equal("the greatest dune", x.greatestDune(1), 10);
    }

    /** "2 the greatest difference of heights of two neighbors": over each edge of the field, up and down. */
    private static void differenceOverEachEdge() {
        relief("22222/34443/45554/34443", 5, 11, 2, 0);
        relief("2346/2346/2346", 6, 3, 4, 0);
        relief("6432/6432/6432", 6, 0, 4, 0);
        relief("2222/3333/4444/6666", 6, 12, 4, 0);
        relief("6666/4444/3333/2222", 6, 0, 4, 0);
        relief("0999/9999/9999", 9, 1, 9, 1);
        relief("9999/9999/9990", 9, 0, 9, 1);
    }

    /** "of two neighbors": each cell with each of its four neighbors, over the edges, too, up and down. */
    private static void differenceOfEachPair() {
        for (int cell = 0; cell < 20; cell++) {
            int row = cell / 5;
            int column = cell % 5;
            int[] neighbors = {(row + 3) % 4 * 5 + column, row * 5 + (column + 1) % 5, (row + 1) % 4 * 5 + column,
                row * 5 + (column + 4) % 5};
            for (int neighbor : neighbors) {
                SlabDunes x = new SlabDunes();
                x.begin(4, 5, 5);
                x.setHeight(cell, 9);
                Check.equal("9 at " + cell + " alone", x.relief(2), 4);
                x.setHeight(neighbor, 1);
                Check.equal("9 at " + cell + ", 1 at " + neighbor, x.relief(2), 8);
            }
        }
    }

    /** Without a difference it is 0, and two cells that are neighbors of one another by no side do not matter. */
    private static void differenceWithoutAny() {
        relief("444/444/444", 4, 0, 0, 0);
        SlabDunes x = Texts.field("55555/55555/55555/55555/55555");
        x.setHeight(6, 9);
        x.setHeight(12, 1);
        Check.equal("4 to each side, 8 across a corner", x.relief(2), 4);
    }

    /** The last cell of a row and the first one of the next have numbers in a row, but are no neighbors. */
    private static void cellsInARowOfNumbers() {
        SlabDunes x = Texts.field("55555/55555/55555/55555/55555");
        x.setHeight(9, 9);
        x.setHeight(10, 1);
        Check.equal("4 to each side, 8 to the next number", x.relief(2), 4);
    }

    /** "3 the number of cells with the height 0": none, all, and 0 alone counts. */
    private static void heightsOfZero() {
        relief("111/111/111", 1, 0, 0, 0);
        relief("011/111/110", 1, 1, 1, 2);
        SlabDunes x = new SlabDunes();
        x.begin(12, 16, 0);
        Check.equal("all of 192", x.relief(3), 192);
        x.begin(3, 3, 0);
        Check.equal("all of 9", x.relief(3), 9);
    }

    /** Heights are those of now, not those of the season before. */
    private static void heightsOfNow() {
        SlabDunes x = Texts.field("000/100/000");
        x.set(0, 1);
        x.set(2, 100);
        Check.equal("lifted", Step.of(x, 0, 3), 1);
        Check.equal("the greatest height", x.relief(0), 1);
        Check.equal("its cell", x.relief(1), 4);
        Check.equal("the difference", x.relief(2), 1);
        Check.equal("bare cells", x.relief(3), 8);
        Check.equal("a slab", x.slabs(), 1);
        Check.equal("a shadow", x.cell(5, 4), 1);
        Check.equal("none behind the old height", x.cell(4, 4), 0);
        Check.equal("a dune", x.duneOf(4, 1), 1);
        Check.equal("none at the old height", x.duneOf(3, 1), 0);
        SlabDunes y = Texts.field("2222/2222/2222");
        y.set(0, 1);
        y.set(1, 100);
        y.set(3, 5);
        Check.equal("lifted", Step.of(y, 0, 4), 1);
        Check.equal("the mean height of 1 and 2 in shadows", y.shadowHeight(), 1.5);
        Check.equal("the greatest height", y.relief(0), 3);
        Check.equal("its cell", y.relief(1), 5);
        Check.equal("the greatest dune of the threshold 3", y.greatestDune(3), 3);
        Check.equal("the height that was there", y.setHeight(4, 0), 1);
    }

    /** The answers of many steps, as the cells tell them; heights by hand and seasons between them. */
    private static void heightsOfNowAfterManySteps() {
        for (int round = 0; round < 12; round++) {
            SlabDunes x = new SlabDunes();
            x.begin(3 + round % 3, 4 + round % 4, round % 3);
            x.setWind(round % 4, 900 + round);
            x.set(3, 5);
            x.setHeight(round, 9 + round);
            x.run(300);
            x.setHeight(11, 4);
            if (round % 2 == 0) {
                x.season();
            }
            x.run(100);
            asTheCellsTell("round " + round, x);
        }
    }

    private static void asTheCellsTell(String what, SlabDunes x) {
        int columns = x.value(5);
        int[] heights = new int[x.value(4) * columns];
        int sum = 0;
        int highest = 0;
        int bare = 0;
        for (int cell = 0; cell < heights.length; cell++) {
            heights[cell] = x.cell(cell, 0);
            sum += heights[cell];
            bare += heights[cell] == 0 ? 1 : 0;
            highest = heights[cell] > heights[highest] ? cell : highest;
        }
        int difference = 0;
        for (int cell = 0; cell < heights.length; cell++) {
            int right = cell / columns * columns + (cell % columns + 1) % columns;
            int below = (cell + columns) % heights.length;
            difference = Math.max(difference, Math.abs(heights[cell] - heights[right]));
            difference = Math.max(difference, Math.abs(heights[cell] - heights[below]));
        }
        Check.equal(what + ": slabs", x.slabs(), sum);
        Check.equal(what + ": relief(0)", x.relief(0), heights[highest]);
        Check.equal(what + ": relief(1)", x.relief(1), highest);
        Check.equal(what + ": relief(2)", x.relief(2), difference);
        Check.equal(what + ": relief(3)", x.relief(3), bare);
    }
}
