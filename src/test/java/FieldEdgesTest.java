/**
 * Boundary cases of the field and of promises 1 to 7; above each test stands the sentence that it tests. What these
 * calls refuse is in RefusalTest.
 */
public final class FieldEdgesTest {
    public static void main(String[] args) {
        newField();
        newFieldHasNoText();
        eachSize();
        eachHeightOfBegin();
        textStaysByBegin();
        savedStatesStayByBegin();
        firstAndLastCell();
        heightByHand();
        heightBesideAnother();
        heightBeyondNinetyNine();
        tuft();
        fenceCapacity();
        fenceInPlaceOfAnother();
        settings();
        windDirections();
        numberS();
        numberSAsItIs();
        Check.end("FieldEdgesTest");
    }

    /** "The field has H rows, .. initially 6, and W columns, .. initially 10"; heights, tufts and fences, initially. */
    private static void newField() {
        SlabDunes x = new SlabDunes();
        Check.equal("rows", x.value(4), 6);
        Check.equal("columns", x.value(5), 10);
        for (int cell = 0; cell < 60; cell++) {
            Check.equal("height of " + cell, x.cell(cell, 0), 2);
            Check.equal("tuft of " + cell, x.cell(cell, 1), 0);
            Check.equal("capacity of " + cell, x.cell(cell, 2), SlabDunes.NONE);
            Check.equal("trapped by " + cell, x.cell(cell, 3), SlabDunes.NONE);
        }
        Check.equal("the hop", x.value(0), 3);
        Check.equal("the chance of sand", x.value(1), 60);
        Check.equal("the chance of bare ground", x.value(2), 40);
        Check.equal("the slope", x.value(3), 2);
        Check.equal("the wind", x.value(6), 0);
        Check.equal("s", x.value(7), 1);
        Check.equal("seasons", x.value(8), 0);
    }

    /** A new object has an empty text and no saved state. */
    private static void newFieldHasNoText() {
        Check.equal("text", new SlabDunes().clearText(), 0);
        Check.equal("parse", new SlabDunes().parse(), -10);
        SlabDunes x = new SlabDunes();
        Texts.same("undo", Check.outcome(() -> x.undo()), "IllegalStateException");
    }

    /** "rows: 3 to 12", "columns: 3 to 16", "Returns the number of cells." Each size, the least and the greatest too. */
    private static void eachSize() {
        for (int rows = 3; rows <= 12; rows++) {
            for (int columns = 3; columns <= 16; columns++) {
                String what = "begin(" + rows + ", " + columns + ", 1)";
                SlabDunes x = new SlabDunes();
                int cells = rows * columns;
                Check.equal(what, x.begin(rows, columns, 1), cells);
                Check.equal(what + ": rows", x.value(4), rows);
                Check.equal(what + ": columns", x.value(5), columns);
                Check.equal(what + ": the last cell", x.cell(cells - 1, 0), 1);
                Check.refusesIndex(x, what + ": the cell behind the last", () -> x.cell(cells, 0));
                Check.equal(what + ": slabs", x.slabs(), cells);
            }
        }
    }

    /** "height: of all cells, 0 to 20" */
    private static void eachHeightOfBegin() {
        for (int height = 0; height <= 20; height++) {
            SlabDunes x = new SlabDunes();
            Check.equal("begin(12, 16, " + height + ")", x.begin(12, 16, height), 192);
            for (int cell = 0; cell < 192; cell++) {
                Check.equal("height of " + cell, x.cell(cell, 0), height);
            }
            Check.equal("growth of the last cell", x.cell(191, 5), 0);
        }
    }

    /** "the field text stays" */
    private static void textStaysByBegin() {
        SlabDunes x = new SlabDunes();
        Texts.append(x, "123/456/789");
        x.begin(12, 16, 20);
        Check.equal("parse after begin", x.parse(), 9);
        Texts.same("the text that stayed", Texts.heights(x), "123/456/789");
        Check.equal("its length", x.clearText(), 11);
    }

    /** "everything is as initially", but a saved state more: "Undoable." */
    private static void savedStatesStayByBegin() {
        SlabDunes x = new SlabDunes();
        x.setHeight(0, 50);
        x.begin(3, 3, 0);
        Check.equal("undo of begin", x.undo(), 1);
        Check.equal("the field is back", x.cell(0, 0), 50);
        Check.equal("undo of what was before begin", x.undo(), 0);
        Check.equal("the field is back", x.cell(0, 0), 2);
    }

    /** "cell: number of a cell": the first one and the last one of the least and of the greatest field. */
    private static void firstAndLastCell() {
        int[][] sizes = {{3, 3}, {3, 16}, {12, 3}, {12, 16}};
        for (int[] size : sizes) {
            int last = size[0] * size[1] - 1;
            SlabDunes x = new SlabDunes();
            x.begin(size[0], size[1], 4);
            for (int cell : new int[] {0, last}) {
                Check.equal("setHeight of " + cell, x.setHeight(cell, 7), 4);
                Check.equal("setTuft of " + cell, x.setTuft(cell, 8), 0);
                Check.equal("setFence of " + cell, x.setFence(cell, 9), SlabDunes.NONE);
                int[] due = {7, 8, 9, 0, 0, 0};
                for (int what = 0; what < due.length; what++) {
                    Check.equal("cell(" + cell + ", " + what + ")", x.cell(cell, what), due[what]);
                }
            }
            Check.equal("all other cells stay", x.slabs(), (last - 1) * 4 + 14);
        }
    }

    /** "height: 0 to 99", "Returns the previous height." */
    private static void heightByHand() {
        SlabDunes x = new SlabDunes();
        Check.equal("setHeight(0, 0)", x.setHeight(0, 0), 2);
        Check.equal("the height 0", x.cell(0, 0), 0);
        Check.equal("setHeight(0, 99)", x.setHeight(0, 99), 0);
        Check.equal("the height 99", x.cell(0, 0), 99);
        Check.equal("setHeight(0, 99) once more", x.setHeight(0, 99), 99);
        Check.equal("setHeight(0, 0)", x.setHeight(0, 0), 99);
        Check.equal("bare cells", x.relief(3), 1);
    }

    /** "Sets the height of a cell by hand; nothing slides." */
    private static void heightBesideAnother() {
        SlabDunes x = new SlabDunes();
        x.begin(3, 3, 0);
        x.set(3, 1);
        x.setHeight(4, 99);
        Texts.same("99 beside 0", Texts.heights(x), "000/0[99]0/000");
        x.setHeight(4, 0);
        x.setHeight(0, 99);
        Texts.same("99 in the corner", Texts.heights(x), "[99]00/000/000");
        Check.equal("slides", x.count(9), 0);
    }

    /** "a height, a number of slabs of 0 or more": by the wind it comes above 99. */
    private static void heightBeyondNinetyNine() {
        SlabDunes x = new SlabDunes();
        x.begin(3, 3, 0);
        x.set(3, 5);
        for (int cell = 0; cell < 9; cell++) {
            x.setHeight(cell, 95);
        }
        x.setHeight(3, 99);
        x.setHeight(4, 99);
        x.setFence(4, 1);
        Check.equal("lifted", Step.of(x, 0, 3), 1);
        Check.equal("the height", x.cell(4, 0), 100);
        Check.equal("the greatest height", x.relief(0), 100);
        Check.equal("a dune of the threshold 99", x.dunes(99), 1);
        Check.equal("its slabs", x.greatestDune(99), 100);
        Check.equal("setHeight answers it", x.setHeight(4, 0), 100);
    }

    /** "tuft: 0 to 100", "Returns the previous tuft." */
    private static void tuft() {
        SlabDunes x = new SlabDunes();
        Check.equal("setTuft(59, 100)", x.setTuft(59, 100), 0);
        Check.equal("the tuft 100", x.cell(59, 1), 100);
        Check.equal("setTuft(59, 100) once more", x.setTuft(59, 100), 100);
        Check.equal("setTuft(59, 0)", x.setTuft(59, 0), 100);
        Check.equal("the tuft 0", x.cell(59, 1), 0);
        Check.equal("setTuft(59, 0) once more", x.setTuft(59, 0), 0);
    }

    /** "capacity: 1 to 50, or NONE to take it away", "Returns .. NONE if there was none." */
    private static void fenceCapacity() {
        SlabDunes x = new SlabDunes();
        Check.equal("setFence(0, NONE) without one", x.setFence(0, SlabDunes.NONE), SlabDunes.NONE);
        Check.equal("no capacity", x.cell(0, 2), SlabDunes.NONE);
        Check.equal("setFence(0, 1)", x.setFence(0, 1), SlabDunes.NONE);
        Check.equal("the capacity 1", x.cell(0, 2), 1);
        Check.equal("it has trapped nothing", x.cell(0, 3), 0);
        Check.equal("setFence(0, 50)", x.setFence(0, 50), 0);
        Check.equal("the capacity 50", x.cell(0, 2), 50);
        Check.equal("setFence(0, NONE)", x.setFence(0, SlabDunes.NONE), 0);
        Check.equal("no capacity", x.cell(0, 2), SlabDunes.NONE);
        Check.equal("nothing trapped, no fence", x.cell(0, 3), SlabDunes.NONE);
    }

    /** "Puts up a fence that has trapped nothing, in place of one that was there": also of a full one. */
    private static void fenceInPlaceOfAnother() {
        SlabDunes x = Texts.field("11111/11111/11111");
        x.set(0, 1);
        x.setFence(6, 1);
        Check.equal("lifted", Step.of(x, 0, 5), 1);
        Check.equal("the fence is full", x.cell(6, 3), 1);
        Check.equal("setFence in place of a full one", x.setFence(6, 1), 1);
        Check.equal("it has trapped nothing", x.cell(6, 3), 0);
        x.setHeight(5, 1);
        x.setHeight(6, 1);
        Check.equal("lifted", Step.of(x, 0, 5), 1);
        Texts.same("it traps again", Texts.latest(x), "5 5 6 1");
        Check.equal("taken away when it is full", x.setFence(6, SlabDunes.NONE), 1);
        Check.equal("then there is none", x.setFence(6, SlabDunes.NONE), SlabDunes.NONE);
        Check.equal("the slabs that it trapped stay on the field", x.cell(6, 0), 2);
    }

    /** "0 the hop, 1 to 8 ..; 1 the chance of sand, 0 to 100 ..; 2 the chance of bare ground, 0 to 100 ..; 3 the slope, 1 to 5" */
    private static void settings() {
        int[] initially = {3, 60, 40, 2};
        int[] least = {1, 0, 0, 1};
        int[] most = {8, 100, 100, 5};
        for (int what = 0; what < 4; what++) {
            SlabDunes x = new SlabDunes();
            int previous = initially[what];
            for (int value = least[what]; value <= most[what]; value++) {
                Check.equal("set(" + what + ", " + value + ")", x.set(what, value), previous);
                Check.equal("value(" + what + ")", x.value(what), value);
                previous = value;
            }
            for (int other = 0; other < 4; other++) {
                Check.equal("the setting " + other + " by set of " + what, x.value(other),
                    other == what ? most[what] : initially[other]);
            }
        }
    }

    /** "direction: 0 to 3", "Returns the previous direction." */
    private static void windDirections() {
        SlabDunes x = new SlabDunes();
        int previous = 0;
        for (int direction : new int[] {0, 3, 3, 2, 1, 0}) {
            Check.equal("setWind(" + direction + ", 5)", x.setWind(direction, 5), previous);
            Check.equal("the direction", x.value(6), direction);
            previous = direction;
        }
    }

    /** "s: 0 to 999999": with the least and the greatest one the numbers are drawn as the description says. */
    private static void numberS() {
        SlabDunes x = new SlabDunes();
        x.begin(3, 3, 0);
        x.setWind(0, 0);
        Check.equal("s = 0", x.value(7), 0);
        x.run(1);
        Check.equal("s after 0", x.value(7), 12345);
        Check.equal("the number 0 is drawn", x.latest(1), 0);
        x.setWind(0, 999999);
        Check.equal("s = 999999", x.value(7), 999999);
        x.run(1);
        long next = (1103515245L * 999999L + 12345L) % 2147483648L;
        Check.equal("s after 999999", x.value(7), next);
        Check.equal("the number that is drawn", x.latest(1), next / 65536 % 9);
    }

    /** "or NONE to let s as it is": also an s that no call could set. */
    private static void numberSAsItIs() {
        SlabDunes x = new SlabDunes();
        Check.equal("setWind(2, NONE)", x.setWind(2, SlabDunes.NONE), 0);
        Check.equal("s stays", x.value(7), 1);
        x.run(1);
        int s = x.value(7);
        Check.that("s is above 999999", s > 999999);
        Check.equal("setWind(1, NONE)", x.setWind(1, SlabDunes.NONE), 2);
        Check.equal("the direction", x.value(6), 1);
        Check.equal("a great s stays", x.value(7), s);
    }
}
