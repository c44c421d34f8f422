/** Boundary cases of the promises 17 to 19; above each test stands the sentence that it tests. */
public final class DuneEdgesTest {
    public static void main(String[] args) {
        leastAndGreatestThreshold();
        atLeastThisHeight();
        withoutADune();
        overEachEdge();
        cellsInARowOfNumbers();
        acrossCorners();
        roundTheField();
        mostDunes();
        longestDune();
        greatestOfSeveral();
        firstAndLastCell();
        dunesOfAFieldThatWasGreater();
        Check.end("DuneEdgesTest");
    }

    /** The number of dunes, the slabs of the greatest one, and the cells of the dune of a cell. */
    private static void dunes(SlabDunes x, String what, int threshold, int number, int slabs, int cell, int cells) {
        Check.equal(what + ": dunes(" + threshold + ")", x.dunes(threshold), number);
        Check.equal(what + ": greatestDune(" + threshold + ")", x.greatestDune(threshold), slabs);
        Check.equal(what + ": duneOf(" + cell + ", " + threshold + ")", x.duneOf(cell, threshold), cells);
    }

    private static void dunes(String text, int threshold, int number, int slabs, int cell, int cells) {
        dunes(Texts.field(text), text, threshold, number, slabs, cell, cells);
    }

    /** "threshold: 1 to 99" */
    private static void leastAndGreatestThreshold() {
        SlabDunes x = Texts.field("000/010/000");
        dunes(x, "the height 1", 1, 1, 1, 4, 1);
        dunes(x, "the height 1", 2, 0, 0, 4, 0);
        x.setHeight(4, 98);
        dunes(x, "the height 98", 98, 1, 98, 4, 1);
        dunes(x, "the height 98", 99, 0, 0, 4, 0);
        x.setHeight(4, 99);
        dunes(x, "the height 99", 99, 1, 99, 4, 1);
        dunes(x, "the height 99", 1, 1, 99, 4, 1);
    }

    /** "each with at least this height": each threshold from 1 to 10 on heights 0 to 9. */
    private static void atLeastThisHeight() {
        SlabDunes x = Texts.field("0123456789/0000000000/0000000000");
        for (int threshold = 1; threshold <= 10; threshold++) {
            int sum = 0;
            for (int height = threshold; height <= 9; height++) {
                sum += height;
            }
            int cells = 10 - threshold;
            dunes(x, "0 to 9", threshold, cells > 0 ? 1 : 0, sum, 9, cells);
            Check.equal("just high enough", threshold <= 9 ? x.duneOf(threshold, threshold) : 0, cells);
            Check.equal("just too low", x.duneOf(threshold - 1, threshold), 0);
        }
    }

    /** "0 without any.", "0 if the cell is in no dune." */
    private static void withoutADune() {
        dunes("000/000/000", 1, 0, 0, 0, 0);
        dunes("999/999/999", 10, 0, 0, 8, 0);
        dunes("000/090/000", 9, 1, 9, 3, 0);
    }

    /** "connected by neighbors": the row behind the last one is row 0, the column behind the last one is column 0. */
    private static void overEachEdge() {
        dunes("01000/00000/00000/01000", 1, 1, 2, 1, 2);
        dunes("00000/10001/00000/00000", 1, 1, 2, 9, 2);
        dunes("010/000/010", 1, 1, 2, 7, 2);
        dunes("000/101/000", 1, 1, 2, 3, 2);
        dunes("10001/00000/00000/10001", 1, 1, 4, 19, 4);
        dunes("1000000000000001/0000000000000000/0000000000000000", 1, 1, 2, 15, 2);
        SlabDunes x = new SlabDunes();
        x.begin(12, 3, 0);
        x.setHeight(1, 1);
        x.setHeight(34, 1);
        dunes(x, "12 rows", 1, 1, 2, 34, 2);
    }

    /** The last cell of a row and the first one of the next have numbers in a row, but are no neighbors. */
    private static void cellsInARowOfNumbers() {
        dunes("0000/0001/1000/0000", 1, 2, 1, 7, 1);
        dunes("0001/1000/0000/0000", 1, 2, 1, 4, 1);
        dunes("1000/0000/0000/0001", 1, 2, 1, 15, 1);
    }

    /** "connected by neighbors", which are above, to the right, below and to the left: not across corners. */
    private static void acrossCorners() {
        dunes("00000/01000/00100/00000", 1, 2, 1, 6, 1);
        dunes("00000/00100/01000/00000", 1, 2, 1, 7, 1);
        dunes("10000/00000/00000/00001", 1, 2, 1, 19, 1);
        dunes("00001/00000/00000/10000", 1, 2, 1, 15, 1);
        dunes("00000/01100/00100/00000", 1, 1, 3, 6, 3);
    }

    /** A dune that goes round the field in a row, in a column, or in both, is one, and each cell counts once. */
    private static void roundTheField() {
        dunes("0000/2222/0000", 2, 1, 8, 7, 4);
        dunes("0200/0200/0200", 2, 1, 6, 1, 3);
        dunes("0200/2222/0200", 2, 1, 12, 4, 6);
        dunes("222/222/222", 2, 1, 18, 8, 9);
    }

    /** The most dunes that a field can have: every second cell of 192. */
    private static void mostDunes() {
        StringBuilder text = new StringBuilder();
        for (int row = 0; row < 12; row++) {
            text.append(row > 0 ? "/" : "").append(row % 2 == 0 ? "1010101010101010" : "0101010101010101");
        }
        dunes(text.toString(), 1, 96, 1, 191, 1);
        SlabDunes x = Texts.field(text.toString());
        x.setHeight(191, 2);
        dunes(x, "the last one is the greatest", 1, 96, 2, 191, 1);
        dunes(x, "the last one alone", 2, 1, 2, 191, 1);
    }

    /** "to which no further one can be added": a dune that winds through the greatest field, and the whole field. */
    private static void longestDune() {
        StringBuilder text = new StringBuilder();
        for (int row = 0; row < 12; row++) {
            text.append(row > 0 ? "/" : "").append(row % 2 == 0 ? "1111111111111110" : row % 4 == 1 ? "0000000000000010"
                : "1000000000000000");
        }
        dunes(text.toString(), 1, 1, 96, 176, 96);
        SlabDunes x = new SlabDunes();
        x.begin(12, 16, 20);
        dunes(x, "the whole field", 20, 1, 3840, 191, 192);
        dunes(x, "the whole field", 21, 0, 0, 191, 0);
    }

    /** "the greatest sum of heights of a dune": not the one with the most cells, be it the first or the last one. */
    private static void greatestOfSeveral() {
        dunes("90000/00111/00000/00000", 1, 2, 9, 7, 3);
        dunes("11100/00000/00900/00000", 1, 2, 9, 0, 3);
        dunes("30000/00111/00000/00000", 1, 2, 3, 0, 1);
        dunes("30000/00112/00000/00000", 1, 2, 4, 0, 1);
    }

    /** "cell: number of a cell": the first and the last one. */
    private static void firstAndLastCell() {
        for (int[] size : new int[][] {{3, 3}, {12, 16}}) {
            int last = size[0] * size[1] - 1;
            SlabDunes x = new SlabDunes();
            x.begin(size[0], size[1], 0);
            x.setHeight(0, 5);
            dunes(x, "the first cell", 5, 1, 5, 0, 1);
            Check.equal("not the last cell", x.duneOf(last, 5), 0);
            x.setHeight(0, 0);
            x.setHeight(last, 5);
            dunes(x, "the last cell", 5, 1, 5, last, 1);
            Check.equal("not the first cell", x.duneOf(0, 5), 0);
        }
    }

    /** Cells of a field that was greater are no cells of this one. */
    private static void dunesOfAFieldThatWasGreater() {
        SlabDunes x = new SlabDunes();
        x.begin(12, 16, 20);
        x.begin(3, 3, 0);
        dunes(x, "a bare field", 1, 0, 0, 8, 0);
        x.begin(3, 3, 1);
        dunes(x, "a field of one slab a cell", 1, 1, 9, 8, 9);
        x.undo();
        x.undo();
        dunes(x, "the greatest field again", 1, 1, 3840, 191, 192);
    }
}
