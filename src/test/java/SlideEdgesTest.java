/**
 * Boundary cases of sliding: the slope just reached and just passed, the neighbors over each edge of the field, the
 * first one of several, what is looked at afterwards; above each test stands the sentence that it tests.
 */
public final class SlideEdgesTest {
    /** The midst and the four corners of a field of 5 rows and 5 columns. */
    private static final int[] SMALL = {12, 0, 4, 20, 24};
    /** The midst and the four corners of the greatest field. */
    private static final int[] GREAT = {100, 0, 15, 176, 191};

    public static void main(String[] args) {
        downByMoreThanTheSlope();
        upByMoreThanTheSlope();
        downToTheFirstOfTheLowest();
        upFromTheFirstOfTheHighest();
        downToTheLowest();
        upFromTheHighest();
        downItAlone();
        upItAlone();
        downOnAndOn();
        upOnAndOn();
        fencesTrapNothingThatSlides();
        fencesGiveWhatSlides();
        slidesCrossNoSeam();
        slidesAfterEachWayToStay();
        Check.end("SlideEdgesTest");
    }

    /** "those above, to the right, below and to the left" */
    private static int[] around(int rows, int columns, int cell) {
        int row = cell / columns;
        int column = cell % columns;
        return new int[] {
            (row + rows - 1) % rows * columns + column,
            row * columns + (column + 1) % columns,
            (row + 1) % rows * columns + column,
            row * columns + (column + columns - 1) % columns,
        };
    }

    /** The cells with the height 10, and the slope. */
    private static SlabDunes flat(int rows, int columns, int slope) {
        SlabDunes x = new SlabDunes();
        x.begin(rows, columns, 10);
        x.set(0, 2);
        x.set(3, slope);
        return x;
    }

    /** A slab is lifted two cells to the left of this one, and trapped in this one. */
    private static void land(SlabDunes x, int cell) {
        int start = cell / 5 * 5 + (cell % 5 + 3) % 5;
        x.setFence(cell, 50);
        x.setWind(0, Chance.seed(25, start, 0, 99));
        Check.equal("lifted", x.run(1), 1);
        Texts.same("it lands", Texts.latest(x), "5 " + start + " " + cell + " 1");
    }

    /** A slab is lifted from this cell of the greatest field, and trapped two cells downwind. */
    private static void lift(SlabDunes x, int direction, int cell) {
        int side = (direction + 1) % 4;
        int trap = around(12, 16, around(12, 16, cell)[side])[side];
        x.setFence(trap, 50);
        x.setWind(direction, Chance.seed(192, cell, 0, 99));
        Check.equal("lifted", x.run(1), 1);
        Texts.same("it is trapped", Texts.latest(x), "5 " + cell + " " + trap + " 1");
    }

    /** The side from which this wind comes: a higher neighbor there would put the cell in its shadow. */
    private static int upwindSide(int direction) {
        return (direction + 3) % 4;
    }

    /** "as long as it has a neighbor that is lower than it by more than the slope": over each edge, for each slope. */
    private static void downByMoreThanTheSlope() {
        for (int slope = 1; slope <= 5; slope++) {
            for (int cell : SMALL) {
                for (int side = 0; side < 4; side++) {
                    int neighbor = around(5, 5, cell)[side];
                    String what = "slope " + slope + ", from " + cell + " to " + neighbor;
                    SlabDunes x = flat(5, 5, slope);
                    x.setHeight(neighbor, 11 - slope);
                    land(x, cell);
                    Check.equal(what + ": lower by the slope", x.count(9), 0);
                    Check.equal(what + ": it stays", x.cell(cell, 0), 11);
                    SlabDunes y = flat(5, 5, slope);
                    y.setHeight(neighbor, 10 - slope);
                    land(y, cell);
                    Check.equal(what + ": lower by 1 more", y.count(9), 1);
                    Check.equal(what + ": it has slid from there", y.cell(cell, 0), 10);
                    Check.equal(what + ": it has slid to there", y.cell(neighbor, 0), 11 - slope);
                }
            }
        }
    }

    /** "as long as it has a neighbor that is higher than it by more than the slope": over each edge, for each slope. */
    private static void upByMoreThanTheSlope() {
        for (int slope = 1; slope <= 5; slope++) {
            for (int cell : GREAT) {
                for (int side = 0; side < 4; side++) {
                    int direction = side == upwindSide(0) ? 2 : 0;
                    int neighbor = around(12, 16, cell)[side];
                    String what = "slope " + slope + ", from " + neighbor + " to " + cell;
                    SlabDunes x = flat(12, 16, slope);
                    x.setHeight(neighbor, 9 + slope);
                    lift(x, direction, cell);
                    Check.equal(what + ": higher by the slope", x.count(9), 0);
                    Check.equal(what + ": it lacks", x.cell(cell, 0), 9);
                    SlabDunes y = flat(12, 16, slope);
                    y.setHeight(neighbor, 10 + slope);
                    lift(y, direction, cell);
                    Check.equal(what + ": higher by 1 more", y.count(9), 1);
                    Check.equal(what + ": it has slid to there", y.cell(cell, 0), 10);
                    Check.equal(what + ": it has slid from there", y.cell(neighbor, 0), 9 + slope);
                }
            }
        }
    }

    /** "to the lowest neighbor, of several the first one": above, right, below, left, in the midst and in corners. */
    private static void downToTheFirstOfTheLowest() {
        for (int cell : SMALL) {
            int[] neighbors = around(5, 5, cell);
            for (int first = 0; first < 4; first++) {
                SlabDunes x = flat(5, 5, 1);
                for (int side = first; side < 4; side++) {
                    x.setHeight(neighbors[side], 9);
                }
                land(x, cell);
                Check.equal("one slide", x.count(9), 1);
                for (int side = 0; side < 4; side++) {
                    Check.equal("from " + cell + ", first " + first + ": the neighbor " + side,
                        x.cell(neighbors[side], 0), side <= first ? 10 : 9);
                }
            }
        }
    }

    /** "from the highest neighbor, of several the first one": by each wind, in the midst and in corners. */
    private static void upFromTheFirstOfTheHighest() {
        for (int cell : GREAT) {
            for (int direction = 0; direction < 4; direction++) {
                for (int first = 0; first < 4; first++) {
                    if (first != upwindSide(direction)) {
                        fromTheFirst(cell, direction, first);
                    }
                }
            }
        }
    }

    private static void fromTheFirst(int cell, int direction, int first) {
        int[] neighbors = around(12, 16, cell);
        SlabDunes x = flat(12, 16, 1);
        for (int side = first; side < 4; side++) {
            if (side != upwindSide(direction)) {
                x.setHeight(neighbors[side], 11);
            }
        }
        lift(x, direction, cell);
        Check.equal("one slide", x.count(9), 1);
        for (int side = 0; side < 4; side++) {
            Check.equal("to " + cell + ", wind " + direction + ", first " + first + ": the neighbor " + side,
                x.cell(neighbors[side], 0), side <= first || side == upwindSide(direction) ? 10 : 11);
        }
    }

    /** "the lowest neighbor": also if it is the last one, and others would be low enough. */
    private static void downToTheLowest() {
        for (int cell : SMALL) {
            for (int lowest = 0; lowest < 4; lowest++) {
                int[] neighbors = around(5, 5, cell);
                SlabDunes x = flat(5, 5, 1);
                for (int side = 0; side < 4; side++) {
                    x.setHeight(neighbors[side], side == lowest ? 8 : 9);
                }
                land(x, cell);
                for (int side = 0; side < 4; side++) {
                    Check.equal("from " + cell + " to " + lowest + ": " + side, x.cell(neighbors[side], 0), 9);
                }
            }
        }
    }

    /** "the highest neighbor": also if it is the last one, and others would be high enough. */
    private static void upFromTheHighest() {
        for (int cell : GREAT) {
            for (int highest = 0; highest < 4; highest++) {
                int direction = highest == upwindSide(0) ? 2 : 0;
                int[] neighbors = around(12, 16, cell);
                SlabDunes x = flat(12, 16, 1);
                for (int side = 0; side < 4; side++) {
                    if (side != upwindSide(direction)) {
                        x.setHeight(neighbors[side], side == highest ? 12 : 11);
                    }
                }
                lift(x, direction, cell);
                for (int side = 0; side < 4; side++) {
                    Check.equal("from " + highest + " to " + cell + ": " + side, x.cell(neighbors[side], 0),
                        side == upwindSide(direction) ? 10 : 11);
                }
            }
        }
    }

    /** "then this neighbor has got a slab, and is looked at instead (it alone)": not the cell that it slid from. */
    private static void downItAlone() {
        SlabDunes x = new SlabDunes();
        x.begin(5, 5, 0);
        x.set(0, 2);
        x.set(3, 1);
        x.setHeight(10, 90);
        x.setHeight(12, 90);
        land(x, 12);
        Texts.same("one slab alone slides from a great height", Texts.heights(x),
            "00000/00100/[89]0[90]00/00000/00000");
        Check.equal("one slide", x.count(9), 1);
    }

    /** "then this neighbor has lost a slab, and is looked at instead (it alone)": not the cell that it slid to. */
    private static void upItAlone() {
        SlabDunes x = flat(12, 16, 1);
        x.setHeight(84, 99);
        lift(x, 0, 100);
        Check.equal("one slab alone slides from a great height", x.cell(84, 0), 98);
        Check.equal("the cell has it", x.cell(100, 0), 10);
        Check.equal("one slide", x.count(9), 1);
    }

    /** "As long as": a slab slides on, from the first row to the last one and further. */
    private static void downOnAndOn() {
        SlabDunes x = flat(5, 5, 1);
        x.setHeight(22, 9);
        x.setHeight(17, 8);
        x.setHeight(12, 7);
        land(x, 2);
        Check.equal("three slides", x.count(9), 3);
        Check.equal("the first one", x.cell(22, 0), 9);
        Check.equal("the second one", x.cell(17, 0), 8);
        Check.equal("there it stays", x.cell(12, 0), 8);
        Check.equal("no slab is lost", x.slabs(), 250 - 6);
    }

    /** "As long as": slabs follow one another, from the first column to the last one and so on. */
    private static void upOnAndOn() {
        SlabDunes x = flat(12, 16, 1);
        x.setHeight(96, 11);
        x.setHeight(97, 12);
        x.setHeight(98, 13);
        lift(x, 1, 111);
        Check.equal("three slides", x.count(9), 3);
        Check.equal("the cell that lost", x.cell(111, 0), 10);
        Check.equal("the first one", x.cell(96, 0), 11);
        Check.equal("the second one", x.cell(97, 0), 12);
        Check.equal("the last one lacks it", x.cell(98, 0), 12);
        Check.equal("no slab is lost", x.slabs(), 1920 + 6);
    }

    /** "Fences do not matter for sliding, and trap nothing that slides." A slab slides to a fence, empty or full. */
    private static void fencesTrapNothingThatSlides() {
        SlabDunes x = flat(5, 5, 1);
        x.setHeight(7, 9);
        x.setFence(7, 1);
        land(x, 12);
        Check.equal("it slides to the fence", x.cell(7, 0), 10);
        Check.equal("the fence has trapped nothing", x.cell(7, 3), 0);
        Check.equal("one slab was trapped", x.count(5), 1);
        land(x, 7);
        Check.equal("the new fence has trapped one", x.cell(7, 3), 1);
        x.setHeight(5, 10);
        x.setHeight(7, 10);
        x.setFence(7, 1);
        Check.equal("lifted", Step.of(x, 0, 5), 1);
        Check.equal("the fence is full", x.cell(7, 3), 1);
        x.setHeight(10, 10);
        x.setHeight(7, 9);
        land(x, 12);
        Check.equal("it slides to the full fence", x.cell(7, 0), 10);
        Check.equal("the fence is just full", x.cell(7, 3), 1);
    }

    /** "Fences do not matter for sliding": a slab slides from a fence, which has trapped as many as before. */
    private static void fencesGiveWhatSlides() {
        SlabDunes x = flat(12, 16, 1);
        x.setHeight(82, 14);
        x.setFence(84, 50);
        Check.equal("lifted", Step.of(x, 0, 82), 1);
        Check.equal("the fence has trapped one", x.cell(84, 3), 1);
        Check.equal("its height", x.cell(84, 0), 11);
        lift(x, 0, 100);
        Check.equal("a slab slides from the fence", x.cell(84, 0), 10);
        Check.equal("it has trapped one still", x.cell(84, 3), 1);
    }

    /** "A slab that moves during hops .. has crossed the seam": one that slides over an edge has not. */
    private static void slidesCrossNoSeam() {
        for (int side = 0; side < 4; side++) {
            int cell = side == 1 || side == 2 ? 24 : 0;
            SlabDunes x = flat(5, 5, 1);
            x.setHeight(around(5, 5, cell)[side], 9);
            land(x, cell);
            Check.equal("a slide", x.count(9), 1);
            Check.equal("crossings to the right of the side " + side, x.count(10), cell == 0 ? 1 : 0);
            Check.equal("crossings to the left of the side " + side, x.count(11), 0);
        }
        for (int direction = 1; direction <= 3; direction += 2) {
            SlabDunes x = flat(12, 16, 1);
            x.setHeight(16, 11);
            lift(x, direction, 31);
            SlabDunes y = flat(12, 16, 1);
            y.setHeight(31, 11);
            lift(y, direction, 16);
            Check.equal("a slide from the first column to the last one", x.count(9), 1);
            Check.equal("a slide from the last column to the first one", y.count(9), 1);
            Check.equal("no crossings", x.count(10) + x.count(11) + y.count(10) + y.count(11), 0);
        }
    }

    /** "Where it is trapped or stays, .. this cell has got a slab (sliding)": by the reasons 6, 7 and 8, too. */
    private static void slidesAfterEachWayToStay() {
        SlabDunes x = steep("3313333/4433333/3333333", 100);
        Step.is("reason 6", x, 0, Chance.seed(21, 7, 0, 99), "6 7 9 1", "3323333/3433333/3333333", 2);
        SlabDunes y = steep("3313333/4333333/3333333", 100);
        Step.is("reason 7", y, 0, Chance.seed(21, 7, 0, 99), "7 7 9 1", "3323333/3333333/3333333", 3);
        SlabDunes z = steep("3331333/4333333/3333333", 0);
        Step.is("reason 8", z, 0, Chance.seed(21, 7, 0, 99), "8 7 10 12", "3332333/3333333/3333333", 14);
        Check.equal("a slide each", 100 * x.count(9) + 10 * y.count(9) + z.count(9), 111);
    }

    private static SlabDunes steep(String text, int chanceOfSand) {
        SlabDunes x = Texts.field(text);
        x.set(0, 2);
        x.set(1, chanceOfSand);
        x.set(3, 1);
        return x;
    }
}
