/**
 * Boundary cases of the wind and its shadows: the lines of the field in each direction, their ends, and the heights at
 * which a shadow just reaches a cell; above each test stands the sentence that it tests.
 */
public final class ShadowEdgesTest {
    private static final int[] ROW_STEP = {0, 1, 0, -1};
    private static final int[] COLUMN_STEP = {1, 0, -1, 0};

    public static void main(String[] args) {
        allOfALine();
        aLineIsClosed();
        justReached();
        justReachedAboveTheGround();
        theNextCell();
        equalHeights();
        higherThanWhatIsUpwind();
        byAnyDistance();
        meanWithoutShadows();
        meanOfOneCell();
        meanOfBareCells();
        meanOfAll();
        meanByWind();
        Check.end("ShadowEdgesTest");
    }

    private static SlabDunes blown(int rows, int columns, int height, int direction) {
        SlabDunes x = new SlabDunes();
        x.begin(rows, columns, height);
        x.setWind(direction, SlabDunes.NONE);
        return x;
    }

    private static int lengthOfLine(int rows, int columns, int direction) {
        return direction % 2 == 0 ? columns : rows;
    }

    /** The cell that is reached by so many moves in a direction. */
    private static int downwind(int rows, int columns, int cell, int direction, int moves) {
        int row = Math.floorMod(cell / columns + moves * ROW_STEP[direction], rows);
        int column = Math.floorMod(cell % columns + moves * COLUMN_STEP[direction], columns);
        return row * columns + column;
    }

    /** "for some distance d from 1 to the number of cells of a line in the direction of the wind minus 1 (W or H)" */
    private static void allOfALine() {
        int[][] sizes = {{3, 3}, {3, 16}, {12, 3}, {12, 16}, {4, 7}};
        for (int[] size : sizes) {
            for (int direction = 0; direction < 4; direction++) {
                SlabDunes x = blown(size[0], size[1], 0, direction);
                int source = size[1] + 1;
                x.setHeight(source, 99);
                String what = size[0] + " x " + size[1] + ", wind " + direction;
                int line = lengthOfLine(size[0], size[1], direction);
                for (int d = 1; d < line; d++) {
                    int cell = downwind(size[0], size[1], source, direction, d);
                    Check.equal(what + ": in the shadow at " + d, x.cell(cell, 4), 1);
                }
                int shaded = 0;
                for (int cell = 0; cell < size[0] * size[1]; cell++) {
                    shaded += x.cell(cell, 4);
                }
                Check.equal(what + ": no other cell, nor the source", shaded, line - 1);
            }
        }
    }

    /** "The row behind the last one is row 0, and the column behind the last one is column 0": from each edge. */
    private static void aLineIsClosed() {
        int[] onTheEdge = {14, 33, 10, 3};
        int[] behindTheEdge = {10, 3, 14, 33};
        for (int direction = 0; direction < 4; direction++) {
            SlabDunes x = blown(7, 5, 0, direction);
            x.setHeight(onTheEdge[direction], 1);
            int behind = behindTheEdge[direction];
            Check.equal("wind " + direction + ": behind the edge", x.cell(behind, 4), 1);
            int shaded = 0;
            for (int cell = 0; cell < 35; cell++) {
                shaded += x.cell(cell, 4);
            }
            Check.equal("wind " + direction + ": nowhere else", shaded, 1);
        }
    }

    /** "a height u with (u - its height) * 5 above 4 * d": not if it is just 4 * d, at the distances 5, 10 and 15. */
    private static void justReached() {
        reached(0, 16, 15);
        reached(1, 12, 11);
        reached(2, 16, 15);
        reached(3, 12, 11);
    }

    private static void reached(int direction, int line, int longest) {
        for (int u = 1; u <= 13; u++) {
            SlabDunes x = direction % 2 == 0 ? blown(3, 16, 0, direction) : blown(12, 3, 0, direction);
            int rows = x.value(4);
            int columns = x.value(5);
            x.setHeight(columns + 1, u);
            Check.equal("the line", lengthOfLine(rows, columns, direction), line);
            for (int d = 1; d <= longest; d++) {
                int cell = downwind(rows, columns, columns + 1, direction, d);
                Check.equal("wind " + direction + ", height " + u + ", distance " + d, x.cell(cell, 4), 5 * u > 4 * d ? 1 : 0);
            }
        }
    }

    /** "(u - its height)": what counts is how much higher it is. */
    private static void justReachedAboveTheGround() {
        int[][] cases = {{1, 1}, {5, 4}, {10, 8}, {15, 12}};
        for (int[] c : cases) {
            for (int ground : new int[] {1, 7, 20}) {
                int cell = 16 + c[0];
                int enough = c[0] == 1 ? 1 : c[1] + 1;
                SlabDunes x = blown(3, 16, ground, 0);
                x.setHeight(16, ground + enough);
                Check.equal("just above at the distance " + c[0], x.cell(cell, 4), 1);
                x.setHeight(16, ground + enough - 1);
                Check.equal("not above at the distance " + c[0], x.cell(cell, 4), 0);
            }
        }
    }

    /** The least shadow: a height of 1 reaches the distance 1 alone, for 5 is above 4 and not above 8. */
    private static void theNextCell() {
        for (int direction = 0; direction < 4; direction++) {
            SlabDunes x = blown(3, 3, 0, direction);
            x.setHeight(4, 1);
            Check.equal("wind " + direction + ": 1", x.cell(downwind(3, 3, 4, direction, 1), 4), 1);
            Check.equal("wind " + direction + ": 2", x.cell(downwind(3, 3, 4, direction, 2), 4), 0);
            x.setHeight(4, 2);
            Check.equal("wind " + direction + ": 2 of a height of 2", x.cell(downwind(3, 3, 4, direction, 2), 4), 1);
        }
    }

    /** Without a greater height upwind there is no shadow: on a flat field, bare or high, by no wind. */
    private static void equalHeights() {
        for (int height : new int[] {0, 1, 20}) {
            for (int direction = 0; direction < 4; direction++) {
                SlabDunes x = blown(3, 3, height, direction);
                for (int cell = 0; cell < 9; cell++) {
                    Check.equal("a flat field", x.cell(cell, 4), 0);
                }
            }
        }
    }

    /** A cell that is higher than all others lies in no shadow; the lower ones do not hide it. */
    private static void higherThanWhatIsUpwind() {
        SlabDunes x = blown(3, 16, 20, 0);
        x.setHeight(16, 21);
        Check.equal("the highest", x.cell(16, 4), 0);
        x.setHeight(17, 99);
        Check.equal("the distance 15 upwind", x.cell(16, 4), 1);
        Check.equal("the highest", x.cell(17, 4), 0);
        x.setHeight(16, 99);
        Check.equal("as high as the other", x.cell(16, 4), 0);
    }

    /** "for some distance": the nearest ones may be low, and the farthest one high. */
    private static void byAnyDistance() {
        SlabDunes x = Texts.field("9000000000000005/0000000000000000/0000000000000000");
        x.setWind(0, SlabDunes.NONE);
        // For the cell 15 the cell 0 is higher by 4 at the distance 15, and by no other cell it is shaded.
        Check.equal("20 is not above 60", x.cell(15, 4), 0);
        x.setHeight(0, 17);
        Check.equal("60 is not above 60", x.cell(15, 4), 0);
        x.setHeight(0, 18);
        Check.equal("65 is above 60", x.cell(15, 4), 1);
    }

    /** "0.0 without any." */
    private static void meanWithoutShadows() {
        Check.equal("a new field", new SlabDunes().shadowHeight(), 0.0);
        Check.equal("a high field", blown(12, 16, 20, 3).shadowHeight(), 0.0);
    }

    /** One cell in a shadow is enough for a mean. */
    private static void meanOfOneCell() {
        Check.equal("one cell of the height 1", Texts.field("211/000/000").shadowHeight(), 1.0);
        Check.equal("one cell of the height 8", Texts.field("988/777/000").shadowHeight(), 8.0);
        Check.equal("one bare cell", Texts.field("100/000/000").shadowHeight(), 0.0);
    }

    /** "the sum of their heights .. divided by their number": bare cells count, too. */
    private static void meanOfBareCells() {
        SlabDunes x = blown(3, 3, 0, 0);
        x.setHeight(4, 99);
        Check.equal("two bare cells", x.shadowHeight(), 0.0);
        x.setHeight(5, 1);
        Check.equal("a bare cell and one of the height 1", x.shadowHeight(), 0.5);
    }

    /** The greatest number of cells in shadows that a field can have, and a mean that is no whole number. */
    private static void meanOfAll() {
        SlabDunes x = blown(12, 16, 1, 0);
        for (int row = 0; row < 12; row++) {
            x.setHeight(row * 16 + 15, 99);
        }
        Check.equal("180 cells", x.shadowHeight(), 1.0);
        x.setHeight(0, 0);
        Check.equal("180 cells, one of them bare", x.shadowHeight(), 179.0 / 180.0);
        x.setHeight(7, 87);
        Check.equal("one of them nearly as high", x.shadowHeight(), 265.0 / 180.0);
    }

    /** By each wind other cells lie in shadows. */
    private static void meanByWind() {
        double[] alongRows = {1.0, 0.0, 1.5, 0.0};
        double[] alongColumns = {0.0, 1.0, 0.0, 1.5};
        for (int direction = 0; direction < 4; direction++) {
            SlabDunes x = Texts.field("231/231/231");
            x.setWind(direction, SlabDunes.NONE);
            Check.equal("rows of 231, wind " + direction, x.shadowHeight(), alongRows[direction]);
            SlabDunes y = Texts.field("222/333/111");
            y.setWind(direction, SlabDunes.NONE);
            Check.equal("columns of 231, wind " + direction, y.shadowHeight(), alongColumns[direction]);
        }
    }
}
