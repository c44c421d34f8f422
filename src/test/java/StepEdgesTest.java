/**
 * Boundary cases of a step and of promise 8: each reason just reached and just missed, the numbers that are drawn,
 * hops and crossings over each edge of the field; above each test stands the sentence that it tests.
 */
public final class StepEdgesTest {
    private static final int[] ROW_STEP = {0, 1, 0, -1};
    private static final int[] COLUMN_STEP = {1, 0, -1, 0};

    public static void main(String[] args) {
        firstAndLastCellDrawn();
        heightZero();
        heightOne();
        fenceBeforeShadow();
        fullFenceBeforeTuft();
        shadowBeforeTuft();
        shadowJustMissed();
        tuftLessOrNot();
        noTuftIsDrawnFor();
        hopLengths();
        hopsRoundShortLines();
        trapAlongTheHop();
        trapBehindEachEdge();
        trapBehindTheHop();
        trapThatIsFull();
        trapWithOneRoomLeft();
        trapOfFifty();
        trapBeforeShadow();
        shadowBeforeChance();
        shadowJustMissedWhereItLands();
        chanceOfSand();
        chanceOfBareGround();
        groundWithoutTheSlab();
        twelveHops();
        twelfthHop();
        eleventhHop();
        Check.end("StepEdgesTest");
    }

    /** "A cell is drawn: a number below W * H." The first cell and the last one, in the least and the greatest field. */
    private static void firstAndLastCellDrawn() {
        int[][] sizes = {{3, 3}, {3, 16}, {12, 3}, {12, 16}};
        for (int[] size : sizes) {
            int cells = size[0] * size[1];
            for (int cell : new int[] {0, cells - 1}) {
                SlabDunes x = new SlabDunes();
                x.begin(size[0], size[1], 0);
                Step.of(x, 0, cell);
                Texts.same("of " + cells + " cells", Texts.latest(x), "1 " + cell + " -1 0");
            }
        }
    }

    /** "1 its height is 0": also with a fence, in a shadow, with a tuft of 100; no further number is drawn. */
    private static void heightZero() {
        SlabDunes x = Texts.field("900/000/000");
        x.setFence(1, 5);
        x.setTuft(1, 100);
        Check.equal("it lies in a shadow", x.cell(1, 4), 1);
        Step.is("bare ground", x, 0, Chance.seed(9, 1), "1 1 -1 0", "900/000/000", 1);
        Check.equal("no other reason is counted", x.count(2) + x.count(3) + x.count(4), 0);
    }

    /** The least height of which a slab is lifted is 1. */
    private static void heightOne() {
        SlabDunes x = Texts.field("000/100/000");
        x.set(0, 1);
        x.set(2, 100);
        Step.is("one slab", x, 0, Chance.seed(9, 3, 0, 99), "7 3 4 1", "000/010/000", 3);
    }

    /** "2 it has a fence": also in a shadow; no further number is drawn. */
    private static void fenceBeforeShadow() {
        SlabDunes x = Texts.field("910/000/000");
        x.setFence(1, 50);
        x.setTuft(1, 100);
        Check.equal("it lies in a shadow", x.cell(1, 4), 1);
        Step.is("a fence", x, 0, Chance.seed(9, 1), "2 1 -1 0", "910/000/000", 1);
        x.setFence(1, SlabDunes.NONE);
        Step.of(x, 0, 1);
        Texts.same("without the fence the shadow is the reason", Texts.latest(x), "3 1 -1 0");
        x.setWind(1, Chance.seed(9, 1, 0, 99));
        x.run(1);
        Texts.same("without the shadow the tuft is the reason", Texts.latest(x), "4 1 -1 0");
    }

    /** "2 it has a fence": also one that has trapped as many as it can. */
    private static void fullFenceBeforeTuft() {
        SlabDunes x = Texts.field("11111/11111/11111");
        x.set(0, 1);
        x.setFence(6, 1);
        Step.of(x, 0, 5);
        Check.equal("the fence is full", x.cell(6, 3), x.cell(6, 2));
        x.setTuft(6, 100);
        int s = Chance.seed(15, 6);
        x.setWind(0, s);
        Check.equal("nothing is lifted", x.run(1), 0);
        Texts.same("a full fence", Texts.latest(x), "2 6 -1 0");
        Check.equal("no further number is drawn", x.value(7), Chance.after(s, 1));
    }

    /** "3 it lies in a shadow": also with a tuft of 100; no further number is drawn. */
    private static void shadowBeforeTuft() {
        SlabDunes x = Texts.field("210/000/000");
        x.setTuft(1, 100);
        Step.is("a shadow", x, 0, Chance.seed(9, 1), "3 1 -1 0", "210/000/000", 1);
    }

    /** "with (u - its height) * 5 above 4 * d": 4 higher at the distance 5 is no shadow, and the slab is lifted. */
    private static void shadowJustMissed() {
        SlabDunes x = Texts.field("5000010000000000/0000000000000000/0000000000000000");
        x.set(2, 100);
        Step.is("20 is not above 20", x, 0, Chance.seed(48, 5, 0, 99), "7 5 8 1",
            "5000000010000000/0000000000000000/0000000000000000", 3);
        SlabDunes y = Texts.field("6000010000000000/0000000000000000/0000000000000000");
        Step.is("25 is above 20", y, 0, Chance.seed(48, 5), "3 5 -1 0",
            "6000010000000000/0000000000000000/0000000000000000", 1);
    }

    /** "4 a number below 100 that is drawn is less than its tuft": the tuft, the number, whether it is held. */
    private static void tuftLessOrNot() {
        int[][] cases = {{0, 0, 0}, {1, 0, 1}, {1, 1, 0}, {50, 49, 1}, {50, 50, 0}, {99, 98, 1}, {99, 99, 0},
            {100, 99, 1}, {100, 0, 1}, {0, 99, 0}};
        for (int[] c : cases) {
            SlabDunes x = Texts.field("11111/11111/11111");
            x.set(0, 1);
            x.set(1, 100);
            x.setTuft(5, c[0]);
            String what = "tuft " + c[0] + ", number " + c[1];
            int s = Chance.seed(15, 5, c[1], c[1]);
            if (c[2] == 1) {
                Step.is(what, x, 0, s, "4 5 -1 0", "11111/11111/11111", 2);
            } else {
                Step.is(what, x, 0, s, "7 5 6 1", "11111/02111/11111", 3);
            }
        }
    }

    /** "(For the reason 4 a number is drawn in any case, if the reasons 1 to 3 do not apply.)": without a tuft, too. */
    private static void noTuftIsDrawnFor() {
        SlabDunes x = Texts.field("11111/11111/11111");
        x.setFence(8, 1);
        Step.is("without a tuft", x, 0, Chance.seed(15, 5, 0, 0), "5 5 8 1", "11111/01121/11111", 2);
    }

    /** "a hop moves it downwind by as many cells as the hop tells": 1 to 8, over each edge of the greatest field. */
    private static void hopLengths() {
        int[] onTheEdge = {95, 183, 80, 7};
        for (int direction = 0; direction < 4; direction++) {
            for (int hop = 1; hop <= 8; hop++) {
                SlabDunes x = new SlabDunes();
                x.begin(12, 16, 1);
                x.set(0, hop);
                x.set(1, 100);
                int start = onTheEdge[direction];
                int row = Math.floorMod(start / 16 + hop * ROW_STEP[direction], 12);
                int column = Math.floorMod(start % 16 + hop * COLUMN_STEP[direction], 16);
                x.setWind(direction, Chance.seed(192, start, 0, 99));
                String what = "wind " + direction + ", hop " + hop;
                Check.equal(what + ": lifted", x.run(1), 1);
                Texts.same(what, Texts.latest(x), "7 " + start + " " + (row * 16 + column) + " 1");
                Check.equal(what + ": lifted from", x.cell(start, 0), 0);
                Check.equal(what + ": it landed", x.cell(row * 16 + column, 0), 2);
                Check.equal(what + ": crossings to the right", x.count(10), direction == 0 ? 1 : 0);
                Check.equal(what + ": crossings to the left", x.count(11), direction == 2 ? 1 : 0);
            }
        }
    }

    /** "each such move counts": a hop of 8 in a line of 3 crosses the seam 2 or 3 times; between rows there is none. */
    private static void hopsRoundShortLines() {
        for (int direction = 0; direction < 4; direction++) {
            for (int at = 0; at < 3; at++) {
                SlabDunes x = new SlabDunes();
                x.begin(3, 3, 1);
                x.set(0, 8);
                x.set(1, 100);
                int start = direction % 2 == 0 ? 3 + at : 3 * at + 1;
                int goal = Math.floorMod(at + 8 * (ROW_STEP[direction] + COLUMN_STEP[direction]), 3);
                int end = direction % 2 == 0 ? 3 + goal : 3 * goal + 1;
                String what = "wind " + direction + ", from " + start;
                Check.equal(what + ": lifted", Step.of(x, direction, start), 1);
                Texts.same(what, Texts.latest(x), "7 " + start + " " + end + " 1");
                Check.equal(what + ": crossings to the right", x.count(10), direction == 0 ? (at + 8) / 3 : 0);
                Check.equal(what + ": crossings to the left", x.count(11), direction == 2 ? (2 - at + 8) / 3 : 0);
            }
        }
    }

    /** "if it comes to a cell with a fence ..": in the first, the midst and the last cell of the first and second hop. */
    private static void trapAlongTheHop() {
        for (int distance = 1; distance <= 6; distance++) {
            SlabDunes x = Texts.field("1111111/1111111/1111111");
            x.set(1, 0);
            x.setFence(7 + distance, 1);
            int hops = distance <= 3 ? 1 : 2;
            int s = Chance.seed(21, 7, 0, 99);
            x.setWind(0, s);
            Check.equal("lifted", x.run(1), 1);
            Texts.same("a fence at " + distance, Texts.latest(x), "5 7 " + (7 + distance) + " " + hops);
            Check.equal("the fence has trapped it", x.cell(7 + distance, 3), 1);
            Check.equal("the slab is there", x.cell(7 + distance, 0), 2);
            Check.equal("no number is drawn for the fence", x.value(7), Chance.after(s, 1 + hops));
        }
    }

    /** A fence right behind each edge ends the hop there; the move to it crosses the seam, what is left of the hop not. */
    private static void trapBehindEachEdge() {
        int[] onTheEdge = {9, 17, 5, 2};
        int[] behindTheEdge = {5, 2, 9, 17};
        for (int direction = 0; direction < 4; direction++) {
            SlabDunes x = new SlabDunes();
            x.begin(4, 5, 1);
            x.set(0, 8);
            x.setFence(behindTheEdge[direction], 1);
            Check.equal("lifted", Step.of(x, direction, onTheEdge[direction]), 1);
            Texts.same("wind " + direction, Texts.latest(x),
                "5 " + onTheEdge[direction] + " " + behindTheEdge[direction] + " 1");
            Check.equal("crossings to the right", x.count(10), direction == 0 ? 1 : 0);
            Check.equal("crossings to the left", x.count(11), direction == 2 ? 1 : 0);
        }
    }

    /** "Otherwise it lands in the last one of these cells": a fence in the cell behind it does not matter. */
    private static void trapBehindTheHop() {
        SlabDunes x = Texts.field("1111111/1111111/1111111");
        x.set(1, 100);
        x.setFence(11, 1);
        Step.is("a fence behind the hop", x, 0, Chance.seed(21, 7, 0, 99), "7 7 10 1", "1111111/0112111/1111111", 3);
        Check.equal("the fence has trapped nothing", x.cell(11, 3), 0);
    }

    /** "a fence that has trapped fewer slabs than its capacity": with as many it traps no more, and slabs land there. */
    private static void trapThatIsFull() {
        SlabDunes x = Texts.field("3333333/3333333/3333333");
        x.set(0, 1);
        x.set(1, 100);
        x.set(3, 5);
        x.setFence(8, 1);
        Check.equal("lifted", Step.of(x, 0, 7), 1);
        Texts.same("the first one is trapped", Texts.latest(x), "5 7 8 1");
        x.setHeight(7, 4);
        Check.equal("lifted", Step.of(x, 0, 7), 1);
        Texts.same("the second one lands on the full fence", Texts.latest(x), "7 7 8 1");
        Check.equal("the fence has trapped one", x.cell(8, 3), 1);
        Check.equal("both slabs are there", x.cell(8, 0), 5);
        x.set(0, 2);
        x.setHeight(7, 5);
        x.setHeight(9, 5);
        Check.equal("lifted", Step.of(x, 0, 7), 1);
        Texts.same("the third one passes the full fence", Texts.latest(x), "7 7 9 1");
        Check.equal("the fence has trapped one still", x.cell(8, 3), 1);
    }

    /** "fewer slabs than its capacity": one fewer is enough. */
    private static void trapWithOneRoomLeft() {
        for (int capacity = 2; capacity <= 5; capacity++) {
            SlabDunes x = Texts.field("333/333/333");
            x.set(0, 1);
            x.set(3, 5);
            x.setFence(4, capacity);
            for (int slab = 1; slab <= capacity + 1; slab++) {
                x.setHeight(3, 9);
                x.setHeight(4, 9);
                Step.of(x, 0, 3);
                Check.equal("capacity " + capacity + ", slab " + slab + ": reason 5", x.latest(0) == 5 ? 1 : 0,
                    slab <= capacity ? 1 : 0);
                Check.equal("it has trapped", x.cell(4, 3), Math.min(slab, capacity));
            }
        }
    }

    /** The greatest capacity, 50: the fence traps 50 slabs and not one more. */
    private static void trapOfFifty() {
        SlabDunes x = new SlabDunes();
        x.begin(3, 3, 20);
        x.set(0, 1);
        x.set(3, 1);
        x.setFence(4, 50);
        int before = 0;
        for (int k = 0; k < 8; k++) {
            x.run(100);
            int trapped = x.cell(4, 3);
            Check.that("it traps more and more, up to 50", trapped >= before && trapped <= 50);
            before = trapped;
        }
        Check.equal("the fence is full", before, 50);
        Check.equal("steps that ended by the reason 5", x.count(5), 50);
        x.run(2000);
        Check.equal("it traps no more", x.cell(4, 3), 50);
        Check.equal("no more steps by the reason 5", x.count(5), 50);
    }

    /** "(reason 5)" is the first one: a fence with room in a shadow traps; a full one there does not. */
    private static void trapBeforeShadow() {
        SlabDunes x = Texts.field("2200000/0000000/0000000");
        x.set(0, 1);
        x.setFence(2, 1);
        x.setTuft(2, 100);
        Check.equal("it lies in a shadow", x.cell(2, 4), 1);
        Step.is("trapped in a shadow", x, 0, Chance.seed(21, 1, 0, 99), "5 1 2 1", "2110000/0000000/0000000", 2);
        x.setHeight(1, 2);
        x.setHeight(2, 0);
        Step.of(x, 0, 1);
        Texts.same("on a full fence in a shadow", Texts.latest(x), "6 1 2 1");
    }

    /** "There it stays if the cell lies in a shadow (reason 6); otherwise ..": then no number is drawn. */
    private static void shadowBeforeChance() {
        SlabDunes x = Texts.field("2200000/0000000/0000000");
        x.set(0, 1);
        x.set(1, 100);
        x.set(2, 100);
        x.setTuft(2, 100);
        Step.is("a shadow", x, 0, Chance.seed(21, 1, 0, 99), "6 1 2 1", "2110000/0000000/0000000", 2);
    }

    /** The shadow of the height 4 on bare ground ends before the distance 5, for 20 is not above 20. */
    private static void shadowJustMissedWhereItLands() {
        SlabDunes x = Texts.field("4400000000000000/0000000000000000/0000000000000000");
        x.set(0, 4);
        x.set(2, 100);
        x.set(3, 5);
        // The cell 1 has 3 after the step, the cell 0 has 4: at the distance 5 the cell 0, at 4 the cell 1.
        Step.is("20 is not above 20, 15 is not above 16", x, 0, Chance.seed(48, 1, 0, 99), "7 1 5 1",
            "4300010000000000/0000000000000000/0000000000000000", 3);
        SlabDunes y = Texts.field("5500000000000000/0000000000000000/0000000000000000");
        y.set(0, 4);
        y.set(2, 100);
        y.set(3, 5);
        Step.is("25 is above 20", y, 0, Chance.seed(48, 1, 0, 99), "6 1 5 1",
            "5400010000000000/0000000000000000/0000000000000000", 2);
    }

    /**
     * "a number below 100 that is drawn is less than the chance of sand, .. plus the tuft of the cell": the chance, the
     * tuft, the number, whether it stays.
     */
    private static final int[][] CHANCES = {{0, 0, 0, 0}, {0, 0, 99, 0}, {0, 1, 0, 1}, {0, 1, 1, 0}, {1, 0, 0, 1},
        {1, 0, 1, 0}, {99, 0, 98, 1}, {99, 0, 99, 0}, {100, 0, 99, 1}, {50, 49, 98, 1}, {50, 49, 99, 0}, {50, 50, 99, 1},
        {100, 100, 99, 1}, {100, 100, 0, 1}, {0, 100, 99, 1}, {0, 99, 98, 1}, {0, 99, 99, 0}};

    private static void chanceOfSand() {
        for (int[] c : CHANCES) {
            stays("sand", Texts.field("11111/11111/11111"), 1, c, "11111/02111/11111", "11111/01211/11111");
        }
    }

    /** ".. or that of bare ground if the height of the cell (without this slab) is 0" */
    private static void chanceOfBareGround() {
        for (int[] c : CHANCES) {
            stays("bare ground", Texts.field("00000/10000/00000"), 2, c, "00000/01000/00000", "00000/00100/00000");
        }
    }

    /** A slab hops from the cell 5 to the cell 6; there it stays or hops on to the cell 7, where a tuft of 100 holds it. */
    private static void stays(String ground, SlabDunes x, int setting, int[] c, String inSix, String inSeven) {
        x.set(0, 1);
        x.set(setting, c[0]);
        x.set(3 - setting, 100 - c[0]);
        x.setTuft(6, c[1]);
        x.setTuft(7, 100);
        String what = ground + ", chance " + c[0] + ", tuft " + c[1] + ", number " + c[2];
        int s = Chance.seed(15, 5, 0, 99, c[2], c[2]);
        if (c[3] == 1) {
            Step.is(what, x, 0, s, "7 5 6 1", inSix, 3);
        } else {
            Step.is(what, x, 0, s, "7 5 7 2", inSeven, 4);
        }
    }

    /** "(without this slab)": a slab that comes back to the cell that it alone had made the height 1 finds it bare. */
    private static void groundWithoutTheSlab() {
        SlabDunes x = Texts.field("000/100/000");
        x.set(1, 0);
        x.set(2, 100);
        Step.is("its own cell is bare", x, 0, Chance.seed(9, 3, 0, 99), "7 3 3 1", "000/100/000", 3);
        SlabDunes y = Texts.field("000/200/000");
        y.set(1, 100);
        y.set(2, 0);
        Step.is("one slab is left there", y, 0, Chance.seed(9, 3, 0, 99), "7 3 3 1", "000/200/000", 3);
        SlabDunes z = Texts.field("000/100/000");
        z.set(1, 100);
        z.set(2, 0);
        Step.is("the chance of sand does not hold it", z, 0, Chance.seed(9, 3, 0, 99), "8 3 3 12", "000/100/000", 14);
    }

    /** "If it has hopped 12 times, it stays in any case": hops of 1 and of 8 cells, to the right and to the left. */
    private static void twelveHops() {
        for (int hop : new int[] {1, 8}) {
            for (int direction = 0; direction < 4; direction++) {
                SlabDunes x = new SlabDunes();
                x.begin(12, 16, 0);
                x.setHeight(86, 1);
                x.set(0, hop);
                x.set(1, 0);
                x.set(2, 0);
                int row = Math.floorMod(5 + 12 * hop * ROW_STEP[direction], 12);
                int column = Math.floorMod(6 + 12 * hop * COLUMN_STEP[direction], 16);
                int s = Chance.seed(192, 86, 0, 99);
                x.setWind(direction, s);
                Check.equal("lifted", x.run(1), 1);
                String what = "hop " + hop + ", wind " + direction;
                Texts.same(what, Texts.latest(x), "8 86 " + (row * 16 + column) + " 12");
                Check.equal(what + ": numbers are drawn for each hop", x.value(7), Chance.after(s, 14));
                Check.equal(what + ": to the right", x.count(10), direction == 0 ? (6 + 12 * hop) / 16 : 0);
                Check.equal(what + ": to the left", x.count(11), direction == 2 ? (9 + 12 * hop) / 16 : 0);
                Check.equal(what + ": no slab is lost", x.slabs(), 1);
            }
        }
    }

    /** "reason 8, if 5, 6 and 7 do not apply; for 7 a number is drawn then, too, as always": in the twelfth hop. */
    private static void twelfthHop() {
        SlabDunes trapped = longWay();
        trapped.setFence(28, 1);
        Step.is("a fence", trapped, 0, Chance.seed(48, 16, 0, 99), "5 16 28 12", longWayTo("0000000000001000"), 13);
        SlabDunes shaded = longWay();
        shaded.setHeight(27, 1);
        Step.is("a shadow", shaded, 0, Chance.seed(48, 16, 0, 99), "6 16 28 12", longWayTo("0000000000011000"), 13);
        SlabDunes held = longWay();
        held.setTuft(28, 100);
        Step.is("a tuft", held, 0, Chance.seed(48, 16, 0, 99), "7 16 28 12", longWayTo("0000000000001000"), 14);
        SlabDunes tired = longWay();
        Step.is("nothing of these", tired, 0, Chance.seed(48, 16, 0, 99), "8 16 28 12", longWayTo("0000000000001000"), 14);
        SlabDunes behind = longWay();
        behind.setFence(29, 1);
        Step.is("a fence behind it", behind, 0, Chance.seed(48, 16, 0, 99), "8 16 28 12", longWayTo("0000000000001000"), 14);
    }

    /** The eleventh hop ends by the reasons 5, 6 and 7 alone. */
    private static void eleventhHop() {
        SlabDunes trapped = longWay();
        trapped.setFence(27, 1);
        Step.is("a fence", trapped, 0, Chance.seed(48, 16, 0, 99), "5 16 27 11", longWayTo("0000000000010000"), 12);
        SlabDunes shaded = longWay();
        shaded.setHeight(26, 1);
        Step.is("a shadow", shaded, 0, Chance.seed(48, 16, 0, 99), "6 16 27 11", longWayTo("0000000000110000"), 12);
        SlabDunes held = longWay();
        held.setTuft(27, 100);
        Step.is("a tuft", held, 0, Chance.seed(48, 16, 0, 99), "7 16 27 11", longWayTo("0000000000010000"), 13);
    }

    /** The slab of the cell 16 hops one cell after the other along a bare row, and nothing holds it. */
    private static SlabDunes longWay() {
        SlabDunes x = Texts.field(longWayTo("1000000000000000"));
        x.set(0, 1);
        x.set(1, 0);
        x.set(2, 0);
        return x;
    }

    private static String longWayTo(String row) {
        return "0000000000000000/" + row + "/0000000000000000";
    }
}
