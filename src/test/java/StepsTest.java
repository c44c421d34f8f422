/** Promise 8 with the reasons, hops, slides and seams of the description, and promise 9. */
public final class StepsTest {
    public static void main(String[] args) {
        reason1BareGround();
        reason2Fence();
        reason3Shadow();
        reason4Tuft();
        reason5Trapped();
        reason5FencesThatAreFull();
        reason6ShadowWhereItLands();
        reason7Chance();
        reason8TwelveHops();
        slidesOfTheSlabThatLands();
        slidesIntoTheCellThatLost();
        slidesTakeTheFirstOfSeveral();
        slidesTakeTheLowestAndTheHighest();
        chains();
        fencesTrapNothingThatSlides();
        seams();
        promise08Run();
        promise08RunRefuses();
        promise09Season();
        promise09SeasonEdges();
        Check.end("StepsTest");
    }

    private static void reason1BareGround() {
        SlabDunes x = Texts.field("100/000/000");
        x.setFence(4, 3);
        x.setTuft(4, 100);
        Step.is("bare and fenced", x, 0, Chance.seed(9, 4), "1 4 -1 0", "100/000/000", 1);
    }

    private static void reason2Fence() {
        SlabDunes x = Texts.field("910/000/000");
        x.setFence(1, 3);
        x.setTuft(1, 100);
        Step.is("fenced and shaded", x, 0, Chance.seed(9, 1), "2 1 -1 0", "910/000/000", 1);
    }

    private static void reason3Shadow() {
        SlabDunes x = Texts.field("210/000/000");
        x.setTuft(1, 100);
        Step.is("shaded with a tuft", x, 0, Chance.seed(9, 1), "3 1 -1 0", "210/000/000", 1);
        SlabDunes y = Texts.field("012/000/000");
        Step.is("shaded by a wind to the left", y, 2, Chance.seed(9, 1), "3 1 -1 0", "012/000/000", 1);
    }

    private static void reason4Tuft() {
        SlabDunes x = Texts.field("111/111/111");
        x.setTuft(4, 50);
        Step.is("held", x, 0, Chance.seed(9, 4, 49, 49), "4 4 -1 0", "111/111/111", 2);
        SlabDunes y = Texts.field("111/111/111");
        y.setTuft(4, 50);
        y.set(0, 1);
        Step.is("just not held", y, 0, Chance.seed(9, 4, 50, 50, 0, 59), "7 4 5 1", "111/102/111", 3);
        SlabDunes z = Texts.field("111/111/111");
        z.set(0, 1);
        Step.is("without a tuft a number is drawn, too", z, 0, Chance.seed(9, 4, 0, 0, 0, 59), "7 4 5 1", "111/102/111", 3);
    }

    private static void reason5Trapped() {
        SlabDunes x = Texts.field("1111111/0000000/0000000");
        x.setFence(2, 1);
        Step.is("trapped in the midst of a hop", x, 0, Chance.seed(21, 0, 0, 99), "5 0 2 1", "0121111/0000000/0000000", 2);
        Check.equal("the fence has trapped one", x.cell(2, 3), 1);
        SlabDunes y = Texts.field("1111111/0000000/0000000");
        y.setFence(5, 2);
        Step.is("trapped in the second hop", y, 0, Chance.seed(21, 0, 0, 99, 60, 99), "5 0 5 2", "0111121/0000000/0000000", 3);
        SlabDunes z = Texts.field("1111111/0000000/0000000");
        z.setFence(3, 2);
        Step.is("trapped in the last cell of a hop", z, 0, Chance.seed(21, 0, 0, 99), "5 0 3 1", "0112111/0000000/0000000", 2);
    }

    private static void reason5FencesThatAreFull() {
        SlabDunes x = Texts.field("222/222/222");
        x.set(0, 1);
        x.set(3, 5);
        x.setFence(1, 1);
        x.setWind(0, Chance.seed(9, 0, 0, 99));
        x.run(1);
        Texts.same("trapped", Texts.latest(x), "5 0 1 1");
        x.setHeight(0, 5);
        x.setHeight(1, 5);
        x.setWind(0, Chance.seed(9, 0, 0, 99, 0, 59));
        x.run(1);
        Texts.same("on a full fence a slab lands as elsewhere", Texts.latest(x), "7 0 1 1");
        Check.equal("a full fence traps no more", x.cell(1, 3), 1);
        Check.equal("the slab is there", x.cell(1, 0), 6);
        x.setHeight(0, 8);
        x.set(0, 2);
        x.setWind(0, Chance.seed(9, 0, 0, 99));
        x.run(1);
        Texts.same("a slab passes a full fence", Texts.latest(x), "6 0 2 1");
        Check.equal("it has trapped one still", x.cell(1, 3), 1);
        trappedByOtherWinds();
    }

    private static void trappedByOtherWinds() {
        int[] from = {3, 1, 5, 7};
        for (int direction = 0; direction < 4; direction++) {
            SlabDunes x = Texts.field("333/333/333");
            x.setFence(4, 1);
            x.setWind(direction, Chance.seed(9, from[direction], 0, 99));
            x.run(1);
            Texts.same("trapped by the wind " + direction, Texts.latest(x), "5 " + from[direction] + " 4 1");
        }
    }

    private static void reason6ShadowWhereItLands() {
        SlabDunes x = Texts.field("2200000/0000000/0000000");
        x.set(0, 1);
        Step.is("into a shadow", x, 0, Chance.seed(21, 1, 0, 99), "6 1 2 1", "2110000/0000000/0000000", 2);
        // From the cell 0 of height 2 the shadow on bare ground ends before the distance 3: 2 * 5 is not above 4 * 3.
        SlabDunes y = Texts.field("2200000/0000000/0000000");
        y.set(0, 3);
        y.set(3, 5);
        Step.is("behind the shadow", y, 0, Chance.seed(21, 1, 0, 99, 0, 39), "7 1 4 1", "2100100/0000000/0000000", 3);
    }

    private static void reason7Chance() {
        SlabDunes x = Texts.field("1100000/0000000/0000000");
        x.set(0, 3);
        Step.is("below the chance of bare ground", x, 0, Chance.seed(21, 1, 0, 99, 39, 39), "7 1 4 1",
            "1000100/0000000/0000000", 3);
        SlabDunes y = Texts.field("1100000/0000000/0000000");
        y.set(0, 2);
        Step.is("not below the chance of bare ground", y, 0, Chance.seed(21, 1, 0, 99, 40, 40, 0, 39), "7 1 5 2",
            "1000010/0000000/0000000", 4);
        SlabDunes z = Texts.field("1111111/0000000/0000000");
        Step.is("below the chance of sand", z, 0, Chance.seed(21, 1, 0, 99, 59, 59), "7 1 4 1",
            "1011211/0000000/0000000", 3);
        SlabDunes v = Texts.field("1111111/0000000/0000000");
        v.set(0, 2);
        Step.is("not below the chance of sand", v, 0, Chance.seed(21, 1, 0, 99, 60, 60, 0, 59), "7 1 5 2",
            "1011121/0000000/0000000", 4);
        tuftsHoldWhatLands();
    }

    private static void tuftsHoldWhatLands() {
        SlabDunes x = Texts.field("1111111/0000000/0000000");
        x.setTuft(4, 20);
        Step.is("the tuft adds to the chance of sand", x, 0, Chance.seed(21, 1, 0, 99, 79, 79), "7 1 4 1",
            "1011211/0000000/0000000", 3);
        SlabDunes y = Texts.field("1100000/0000000/0000000");
        y.setTuft(4, 20);
        Step.is("the tuft adds to the chance of bare ground", y, 0, Chance.seed(21, 1, 0, 99, 59, 59), "7 1 4 1",
            "1000100/0000000/0000000", 3);
        SlabDunes z = Texts.field("1100000/0000000/0000000");
        z.setTuft(4, 20);
        z.set(0, 3);
        Step.is("not below both", z, 0, Chance.seed(21, 1, 0, 99, 60, 60, 0, 39), "7 1 0 2",
            "2000000/0000000/0000000", 4);
    }

    private static void reason8TwelveHops() {
        SlabDunes x = new SlabDunes();
        x.begin(3, 16, 0);
        x.setHeight(17, 1);
        x.set(0, 8);
        x.set(1, 0);
        x.set(2, 0);
        int s = Chance.seed(48, 17);
        x.setWind(0, s);
        Check.equal("lifted", x.run(1), 1);
        Texts.same("the twelfth hop ends it", Texts.latest(x), "8 17 17 12");
        Check.equal("a number is drawn after each hop", x.value(7), Chance.after(s, 14));
        Check.equal("96 moves cross the seam 6 times", x.count(10), 6);
        Check.equal("none to the left", x.count(11), 0);
        Check.equal("the slab is back", x.cell(17, 0), 1);
        reason7InTheTwelfthHop();
    }

    /** The wind goes round a row of 4 cells, so that the hops 4, 8 and 12 end in the cell 0, which has a tuft of 1. */
    private static void reason7InTheTwelfthHop() {
        SlabDunes x = new SlabDunes();
        x.begin(3, 4, 0);
        x.setHeight(0, 1);
        x.set(0, 1);
        x.set(2, 0);
        x.setTuft(0, 1);
        int s = 0;
        while (!staysInTheTwelfthHop(s)) {
            s++;
        }
        x.setWind(0, s);
        x.run(1);
        Texts.same("the chance comes before the twelve hops", Texts.latest(x), "7 0 0 12");
    }

    private static boolean staysInTheTwelfthHop(int s) {
        Chance chance = new Chance(s);
        boolean fits = chance.draw(12) == 0 && chance.draw(100) >= 1;
        for (int hop = 1; fits && hop <= 12; hop++) {
            int roll = chance.draw(100);
            fits = hop % 4 != 0 || (roll < 1) == (hop == 12);
        }
        return fits;
    }

    private static void slidesOfTheSlabThatLands() {
        SlabDunes x = Texts.field("2222222/2220200/2222222");
        x.set(3, 1);
        x.set(0, 3);
        // The slab of the cell 0 lands in the cell 3, comes to 3 there, and slides down to the cell 10.
        Step.is("a slab that lands slides", x, 0, Chance.seed(21, 0, 0, 99, 0, 59), "7 0 3 1", "1222222/2221200/2222222", 3);
        Check.equal("one slide", x.count(9), 1);
    }

    private static void slidesIntoTheCellThatLost() {
        SlabDunes x = Texts.field("33333/33333/35333/33333");
        x.set(3, 2);
        // The cell 6 comes to 2; the cell 11 below it with 5 is higher by 3, and slides to it.
        Step.is("a cell that lost a slab gets another", x, 0, Chance.seed(20, 6, 0, 99, 0, 59), "7 6 9 1",
            "33333/33334/34333/33333", 3);
        Check.equal("one slide", x.count(9), 1);
        SlabDunes y = Texts.field("44444/46444/46444/46444/48444");
        y.set(3, 1);
        // The cell 6 comes to 5; the cell 11 below it with 6 is higher by 1, which is the slope.
        Step.is("no slide at the slope itself", y, 0, Chance.seed(25, 6, 0, 99, 0, 59), "7 6 9 1",
            "44444/45445/46444/46444/48444", 3);
        Check.equal("no slide", y.count(9), 0);
    }

    /** The cell 12 has four neighbors, of which those from the first one on are lower; what lands there slides to it. */
    private static void slidesTakeTheFirstOfSeveral() {
        int[] neighbors = {7, 13, 17, 11};
        for (int first = 0; first < 4; first++) {
            SlabDunes x = Texts.field("44444/44444/44444/44444/44444");
            x.set(0, 2);
            x.set(3, 1);
            for (int k = first; k < 4; k++) {
                x.setHeight(neighbors[k], 3);
            }
            x.setWind(0, Chance.seed(25, 10, 0, 99, 0, 59));
            x.run(1);
            Texts.same("lands", Texts.latest(x), "7 10 12 1");
            Check.equal("one slide", x.count(9), 1);
            for (int k = 0; k < 4; k++) {
                Check.equal("slides to the first of the lowest: " + first + ", " + k, x.cell(neighbors[k], 0),
                    k <= first ? 4 : 3);
            }
        }
        slidesFromTheFirst(0, new int[] {7, 13, 17});
        slidesFromTheFirst(3, new int[] {7, 13, 11});
    }

    /** A slab is lifted from the cell 12; of its neighbors those from the first one on are higher. */
    private static void slidesFromTheFirst(int direction, int[] neighbors) {
        for (int first = 0; first < neighbors.length; first++) {
            SlabDunes x = Texts.field("22222/22222/22222/22222/22222");
            x.set(0, 2);
            x.set(3, 1);
            for (int k = first; k < neighbors.length; k++) {
                x.setHeight(neighbors[k], 3);
            }
            x.setWind(direction, Chance.seed(25, 12, 0, 99, 0, 59));
            Check.equal("lifted", x.run(1), 1);
            Check.equal("one slide", x.count(9), 1);
            for (int k = 0; k < neighbors.length; k++) {
                Check.equal("slides from the first of the highest: " + direction + ", " + first + ", " + k,
                    x.cell(neighbors[k], 0), k <= first ? 2 : 3);
            }
            Check.equal("it is filled again", x.cell(12, 0), 2);
        }
    }

    private static void slidesTakeTheLowestAndTheHighest() {
        SlabDunes x = Texts.field("44444/44344/44424/44344/44444");
        x.set(0, 2);
        Step.is("the lowest, not the first", x, 0, Chance.seed(25, 10, 0, 99, 0, 59), "7 10 12 1",
            "44444/44344/34434/44344/44444", 3);
        SlabDunes y = Texts.field("22222/22322/22222/22422/22222");
        y.set(0, 2);
        y.set(3, 1);
        Step.is("the highest, not the first", y, 0, Chance.seed(25, 12, 0, 99, 0, 59), "7 12 14 1",
            "22222/22322/22223/22322/22222", 3);
    }

    private static void chains() {
        SlabDunes x = Texts.field("22522/22422/22322/22222/22222");
        x.set(0, 1);
        x.set(3, 1);
        // The cell 11 comes to 1 and gets a slab of 12, this one of 7, this one of 2. The slab that hops to 12 comes
        // to 4 there and slides to 13, the first of the lowest.
        Step.is("a chain that fills", x, 0, Chance.seed(25, 11, 0, 99, 0, 59), "7 11 12 1",
            "22422/22422/22332/22222/22222", 3);
        Check.equal("four slides", x.count(9), 4);
        SlabDunes y = Texts.field("44444/44444/44344/44244/44144");
        y.set(0, 2);
        y.set(3, 1);
        // The slab comes to 5 in the cell 7 and slides to 12, to 17 and to 22.
        Step.is("a chain that falls", y, 0, Chance.seed(25, 5, 0, 99, 0, 59), "7 5 7 1",
            "44444/34444/44344/44244/44244", 3);
        Check.equal("three slides", y.count(9), 3);
    }

    private static void fencesTrapNothingThatSlides() {
        SlabDunes x = Texts.field("2222222/2220200/2222222");
        x.set(3, 1);
        x.setFence(10, 5);
        Step.is("a slab slides to a fence", x, 0, Chance.seed(21, 0, 0, 99, 0, 59), "7 0 3 1", "1222222/2221200/2222222", 3);
        Check.equal("the fence has trapped nothing", x.cell(10, 3), 0);
    }

    /** By each wind a slab hops two cells to the cell 4, over the edge of the field. */
    private static void seams() {
        int[] from = {5, 7, 3, 1};
        for (int direction = 0; direction < 4; direction++) {
            SlabDunes x = Texts.field("111/111/111");
            x.set(0, 2);
            x.set(1, 100);
            x.setWind(direction, Chance.seed(9, from[direction], 0, 99));
            x.run(1);
            Texts.same("wind " + direction, Texts.latest(x), "7 " + from[direction] + " 4 1");
            Check.equal("wind " + direction + ": seam to the right", x.count(10), direction == 0 ? 1 : 0);
            Check.equal("wind " + direction + ": seam to the left", x.count(11), direction == 2 ? 1 : 0);
        }
        seamBeforeAFence();
    }

    private static void seamBeforeAFence() {
        SlabDunes x = Texts.field("1111/1111/1111");
        x.setFence(4, 1);
        x.setWind(0, Chance.seed(12, 6, 0, 99));
        x.run(1);
        Texts.same("trapped behind the seam", Texts.latest(x), "5 6 4 1");
        Check.equal("the move to the fence crosses the seam", x.count(10), 1);
    }

    private static void promise08Run() {
        SlabDunes x = new SlabDunes();
        Check.equal("run(0)", x.run(0), 0);
        Check.equal("no step", x.latest(0), SlabDunes.NONE);
        Check.equal("run(0) saves a state", x.undo(), 0);
        int lifted = x.run(2000);
        int sum = x.count(5) + x.count(6) + x.count(7) + x.count(8);
        Check.equal("run answers the slabs that were lifted", lifted, sum);
        Check.equal("steps", x.count(0), 2000);
        Check.equal("all steps have a reason", sum + x.count(1) + x.count(2) + x.count(3) + x.count(4), 2000);
        Check.equal("no slab is lost", x.slabs(), 120);
        SlabDunes y = new SlabDunes();
        int liftedByOnes = 0;
        for (int k = 0; k < 400; k++) {
            liftedByOnes += y.run(1);
        }
        SlabDunes z = new SlabDunes();
        Check.equal("step by step", liftedByOnes, z.run(400));
        Check.equal("undo", z.undo(), 0);
        Check.equal("undo of run: steps", z.count(0), 0);
        Check.equal("undo of run: s", z.value(7), 1);
        Texts.same("undo of run", Texts.heights(z), Texts.heights(new SlabDunes()));
    }

    private static void promise08RunRefuses() {
        SlabDunes x = new SlabDunes();
        Check.refusesArgument(x, "run(-1)", () -> x.run(-1));
        Check.refusesArgument(x, "run(2001)", () -> x.run(2001));
    }

    private static void promise09Season() {
        int[][] cases = {{2, 50, 60, 0}, {3, 50, 20, 1}, {0, 50, 60, 0}, {1, 91, 100, 0}, {2, 100, 100, 0},
            {3, 30, 0, 1}, {3, 29, 0, 1}, {3, 31, 1, 1}, {3, 0, 0, 0}, {0, 0, 0, 0}, {1, 1, 11, 0}, {4, 100, 70, 1},
            {-1, 50, 60, 0}, {-2, 50, 60, 0}, {-2, 95, 100, 0}, {-3, 50, 20, 1}, {-3, 20, 0, 1}, {-4, 100, 70, 1},
            {-3, 0, 0, 0}};
        for (int[] c : cases) {
            SlabDunes x = Grown.by(c[0], c[1]);
            String what = "growth " + c[0] + ", tuft " + c[1];
            Check.equal(what + ": season", x.season(), c[3]);
            Check.equal(what + ": the tuft", x.cell(4, 1), c[2]);
            Check.equal(what + ": seasons", x.value(8), 1);
            for (int cell = 0; cell < 9; cell++) {
                Check.equal(what + ": growth begins anew in " + cell, x.cell(cell, 5), 0);
            }
        }
    }

    private static void promise09SeasonEdges() {
        SlabDunes x = Grown.by(2, 50);
        x.setTuft(0, 10);
        Check.equal("season", x.season(), 0);
        Check.equal("undo", x.undo(), 3);
        Check.equal("undo of season: the tuft", x.cell(4, 1), 50);
        Check.equal("undo of season: the growth", x.cell(4, 5), 2);
        Check.equal("undo of season: seasons", x.value(8), 0);
        x.season();
        x.setHeight(3, 9);
        x.setWind(0, Chance.seed(9, 3, 0, 99));
        x.run(1);
        Check.equal("the next season counts from the end of this one", x.cell(4, 5), 1);
        Check.equal("season", x.season(), 0);
        Check.equal("the tuft", x.cell(4, 1), 70);
        Check.equal("another tuft", x.cell(0, 1), 30);
        Check.equal("seasons", x.value(8), 2);
        heightByHand();
    }

    private static void heightByHand() {
        SlabDunes x = Grown.by(4, 60);
        x.setHeight(4, 20);
        x.setTuft(0, 100);
        Check.equal("the height by hand is what counts", x.season(), 0);
        Check.equal("the tuft", x.cell(4, 1), 70);
        Check.equal("a tuft of 100 stays", x.cell(0, 1), 100);
    }
}
