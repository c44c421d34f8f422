/** Boundary cases of the promises 8, 9, 12 and 13; above each test stands the sentence that it tests. */
public final class RunEdgesTest {
    public static void main(String[] args) {
        noSteps();
        mostSteps();
        mostStepsOnBareGround();
        stepsOneByOne();
        countsOfANewField();
        countsSinceTheBeginning();
        countsOfAllReasons();
        latestWithoutAStep();
        latestIfNoneWasLifted();
        latestBeforeSliding();
        latestOfANewField();
        growthOfTwoAndThree();
        tuftNotBelowZero();
        tuftNotAboveHundred();
        tuftOfZero();
        seasonOfAllCells();
        firstSeason();
        heightByHandInASeason();
        tuftsThatHaveDecreased();
        noTufts();
        Check.end("RunEdgesTest");
    }

    /** "steps: 0 to 2000": run(0) lifts nothing, draws nothing, and is no step. */
    private static void noSteps() {
        SlabDunes x = new SlabDunes();
        Check.equal("run(0)", x.run(0), 0);
        Check.equal("s", x.value(7), 1);
        Check.equal("steps", x.count(0), 0);
        Texts.same("the latest step", Texts.latest(x), "-1 -1 -1 -1");
        Check.equal("slabs", x.slabs(), 120);
    }

    /** "steps: 0 to 2000", "Returns the number of slabs that were lifted." */
    private static void mostSteps() {
        SlabDunes x = new SlabDunes();
        x.begin(12, 16, 20);
        int lifted = x.run(2000);
        Check.equal("steps", x.count(0), 2000);
        Check.equal("slabs that were lifted", lifted, x.count(5) + x.count(6) + x.count(7) + x.count(8));
        Check.that("some are lifted", lifted > 0 && lifted < 2000);
        Check.equal("slabs", x.slabs(), 3840);
        int more = x.run(2000);
        Check.equal("steps", x.count(0), 4000);
        Check.equal("of this run alone", lifted + more, x.count(5) + x.count(6) + x.count(7) + x.count(8));
    }

    /** Without a slab nothing is lifted, and each step draws one number. */
    private static void mostStepsOnBareGround() {
        SlabDunes x = new SlabDunes();
        x.begin(3, 3, 0);
        Check.equal("lifted", x.run(2000), 0);
        Check.equal("reason 1", x.count(1), 2000);
        Check.equal("s", x.value(7), Chance.after(1, 2000));
    }

    /** 300 steps at once are 300 steps one by one. */
    private static void stepsOneByOne() {
        SlabDunes x = new SlabDunes();
        SlabDunes y = new SlabDunes();
        int lifted = 0;
        for (int k = 0; k < 300; k++) {
            lifted += x.run(1);
        }
        Check.equal("lifted", y.run(300), lifted);
        for (int k = 0; k < 3; k++) {
            y.run(0);
        }
        Check.equal("digest", x.digest(), y.digest());
    }

    /** "Counts since the beginning of the field": begin() and parse() set them to 0, undo() sets them back. */
    private static void countsOfANewField() {
        SlabDunes x = new SlabDunes();
        Texts.append(x, "123/456/789");
        x.run(2000);
        int[] before = counts(x);
        x.begin(6, 10, 2);
        sameCounts("begin", x, new int[12]);
        x.undo();
        sameCounts("undo of begin", x, before);
        x.parse();
        sameCounts("parse", x, new int[12]);
        x.undo();
        sameCounts("undo of parse", x, before);
        x.undo();
        sameCounts("undo of run", x, new int[12]);
    }

    private static int[] counts(SlabDunes x) {
        int[] counts = new int[12];
        for (int what = 0; what < 12; what++) {
            counts[what] = x.count(what);
        }
        return counts;
    }

    private static void sameCounts(String when, SlabDunes x, int[] due) {
        int[] got = counts(x);
        for (int what = 0; what < 12; what++) {
            Check.equal(when + ": count(" + what + ")", got[what], due[what]);
        }
    }

    /** "since the beginning of the field": other calls leave the counts, and they go on from run to run. */
    private static void countsSinceTheBeginning() {
        SlabDunes x = new SlabDunes();
        x.run(500);
        int[] before = counts(x);
        x.setHeight(0, 50);
        x.setTuft(0, 50);
        x.setFence(0, 50);
        x.set(0, 5);
        x.setWind(2, 50);
        x.season();
        x.run(0);
        x.dunesAfter(100, 1);
        x.bestFence(0, 100);
        x.liveliestWind(100);
        sameCounts("calls that do no step", x, before);
        x.run(1);
        Check.equal("steps", x.count(0), 501);
    }

    /** "1 to 8 steps that have ended by the reason with this number": 8 steps, each by another reason. */
    private static void countsOfAllReasons() {
        SlabDunes x = Texts.field("0000000000000000/1000000000000000/0000000000000000/0003000000000000");
        x.set(0, 1);
        x.set(1, 0);
        x.set(2, 0);
        int[] due = new int[12];
        one(x, due, 1, 0, 0);
        x.setFence(0, 1);
        x.setHeight(0, 1);
        one(x, due, 2, 0, 0);
        x.setHeight(52, 1);
        one(x, due, 3, 52, 0);
        x.setTuft(52, 100);
        x.setWind(2, 0);
        one(x, due, 4, 52, 2);
        x.setFence(17, 1);
        one(x, due, 5, 16, 0);
        x.setTuft(52, 0);
        one(x, due, 6, 51, 0);
        x.setHeight(16, 1);
        x.setHeight(17, 0);
        x.setTuft(18, 100);
        one(x, due, 7, 16, 0);
        x.setTuft(18, 0);
        x.setHeight(16, 1);
        x.setHeight(18, 0);
        one(x, due, 8, 16, 0);
    }

    private static void one(SlabDunes x, int[] due, int reason, int cell, int direction) {
        x.setWind(direction, Chance.seed(64, cell, 0, 99));
        x.run(1);
        due[0]++;
        due[reason]++;
        Check.equal("the reason " + reason, x.latest(0), reason);
        for (int what = 0; what <= 8; what++) {
            Check.equal("after the reason " + reason + ": count(" + what + ")", x.count(what), due[what]);
        }
    }

    /** "NONE if there was no step since the field was begun or read." */
    private static void latestWithoutAStep() {
        SlabDunes x = new SlabDunes();
        Texts.same("a new object", Texts.latest(x), "-1 -1 -1 -1");
        x.run(0);
        Texts.same("run(0)", Texts.latest(x), "-1 -1 -1 -1");
        x.dunesAfter(5, 1);
        x.bestFence(0, 5);
        x.liveliestWind(5);
        Texts.same("what if", Texts.latest(x), "-1 -1 -1 -1");
        x.run(1);
        Check.that("a step", x.latest(0) >= 1);
        x.undo();
        Texts.same("undo of the only step", Texts.latest(x), "-1 -1 -1 -1");
    }

    /** "2 .. NONE if none was lifted, 3 .. 0 if none was lifted": by each of the reasons 1 to 4, after a longer step. */
    private static void latestIfNoneWasLifted() {
        for (int reason = 1; reason <= 4; reason++) {
            SlabDunes x = Texts.field("1111/1111/1111");
            x.setWind(0, Chance.seed(12, 0, 0, 99));
            Check.equal("a step that lifts", x.run(1), 1);
            Check.that("its hops", x.latest(3) >= 1);
            x.setHeight(5, reason == 1 ? 0 : 1);
            x.setFence(5, reason == 2 ? 1 : SlabDunes.NONE);
            x.setHeight(4, reason == 3 ? 9 : 1);
            x.setTuft(5, reason == 4 ? 100 : 0);
            x.setHeight(6, 1);
            x.setHeight(7, 1);
            Check.equal("a step that does not lift", Step.of(x, 0, 5), 0);
            Texts.same("reason " + reason, Texts.latest(x), reason + " 5 -1 0");
        }
    }

    /** "2 the cell where the slab was trapped or stayed (before sliding; ..)": not the one that it has slid to. */
    private static void latestBeforeSliding() {
        SlabDunes x = Texts.field("3313333/4333333/3333333");
        x.set(0, 2);
        x.set(3, 1);
        x.setFence(9, 1);
        Check.equal("lifted", Step.of(x, 0, 7), 1);
        Texts.same("the latest step", Texts.latest(x), "5 7 9 1");
        Check.equal("a slide", x.count(9), 1);
        Check.equal("it has slid away", x.cell(9, 0), 3);
        Check.equal("it is above", x.cell(2, 0), 2);
    }

    /** "since the field was begun or read": begin() and parse() forget the latest step, undo() brings it back. */
    private static void latestOfANewField() {
        SlabDunes x = new SlabDunes();
        Texts.append(x, "111/111/111");
        x.run(10);
        String before = Texts.latest(x);
        x.begin(3, 3, 1);
        Texts.same("begin", Texts.latest(x), "-1 -1 -1 -1");
        x.undo();
        Texts.same("undo of begin", Texts.latest(x), before);
        x.parse();
        Texts.same("parse", Texts.latest(x), "-1 -1 -1 -1");
        x.undo();
        Texts.same("undo of parse", Texts.latest(x), before);
        x.append('/');
        Check.equal("a text that is no field", x.parse(), -10 - 12);
        Texts.same("parse with a syntax error", Texts.latest(x), before);
    }

    private static void season(int growth, int tuft, int due, int decreased) {
        SlabDunes x = Grown.by(growth, tuft);
        String what = "growth " + growth + ", tuft " + tuft;
        Check.equal(what + ": season", x.season(), decreased);
        Check.equal(what + ": the tuft", x.cell(4, 1), due);
        Check.equal(what + ": seasons", x.value(8), 1);
    }

    /** "If n is above 2 or below -2, its tuft decreases by 30 .., otherwise it increases by 10" */
    private static void growthOfTwoAndThree() {
        season(-4, 50, 20, 1);
        season(-3, 50, 20, 1);
        season(-2, 50, 60, 0);
        season(-1, 50, 60, 0);
        season(0, 50, 60, 0);
        season(1, 50, 60, 0);
        season(2, 50, 60, 0);
        season(3, 50, 20, 1);
        season(4, 50, 20, 1);
    }

    /** "(but not below 0)", "(also to 0)" */
    private static void tuftNotBelowZero() {
        for (int growth : new int[] {3, -3}) {
            season(growth, 1, 0, 1);
            season(growth, 29, 0, 1);
            season(growth, 30, 0, 1);
            season(growth, 31, 1, 1);
            season(growth, 100, 70, 1);
        }
    }

    /** "(but not above 100)" */
    private static void tuftNotAboveHundred() {
        for (int growth : new int[] {2, 0, -2}) {
            season(growth, 1, 11, 0);
            season(growth, 89, 99, 0);
            season(growth, 90, 100, 0);
            season(growth, 91, 100, 0);
            season(growth, 99, 100, 0);
            season(growth, 100, 100, 0);
        }
    }

    /** "each cell with a tuft above 0 is looked at": one of 0 neither grows nor is counted. */
    private static void tuftOfZero() {
        season(0, 0, 0, 0);
        season(2, 0, 0, 0);
        season(3, 0, 0, 0);
        season(-3, 0, 0, 0);
    }

    /** "For all cells the present height is kept for the next season": the first, the last, and those without a tuft. */
    private static void seasonOfAllCells() {
        SlabDunes x = new SlabDunes();
        x.begin(6, 10, 5);
        x.run(500);
        int changed = 0;
        for (int cell = 0; cell < 60; cell++) {
            Check.equal("growth of " + cell, x.cell(cell, 5), x.cell(cell, 0) - 5);
            changed += x.cell(cell, 5) != 0 ? 1 : 0;
        }
        Check.that("many cells have changed", changed > 30);
        x.season();
        for (int cell = 0; cell < 60; cell++) {
            Check.equal("growth of " + cell + " begins anew", x.cell(cell, 5), 0);
        }
        Check.equal("slabs stay", x.slabs(), 300);
    }

    /** "(at the beginning, for the first season; ..)": then from the end of the season before, as each season ends. */
    private static void firstSeason() {
        SlabDunes x = Grown.by(2, 40);
        Check.equal("the first season", x.season(), 0);
        Check.equal("the tuft", x.cell(4, 1), 50);
        Grown.grow(x, 2);
        Check.equal("grown by 4 in two seasons", x.cell(4, 0), 9);
        Check.equal("the second season", x.season(), 0);
        Check.equal("the tuft", x.cell(4, 1), 60);
        Check.equal("the third season, in which nothing has changed", x.season(), 0);
        Check.equal("the tuft", x.cell(4, 1), 70);
        Check.equal("seasons that have ended", x.value(8), 3);
    }

    /** "a cell that was given a height by hand counts from that height", also from the one that it has. */
    private static void heightByHandInASeason() {
        SlabDunes x = Grown.by(3, 40);
        x.setHeight(4, 99);
        Check.equal("the growth", x.cell(4, 5), 0);
        Check.equal("season", x.season(), 0);
        Check.equal("the tuft", x.cell(4, 1), 50);
        SlabDunes y = Grown.by(3, 40);
        y.setHeight(4, y.cell(4, 0));
        Check.equal("the growth", y.cell(4, 5), 0);
        Check.equal("season", y.season(), 0);
        SlabDunes z = Grown.by(3, 40);
        z.setHeight(0, 99);
        Check.equal("the height of another cell by hand does not matter", z.season(), 1);
    }

    /** "Returns the number of tufts that have decreased": of all cells, the first and the last one, too. */
    private static void tuftsThatHaveDecreased() {
        SlabDunes x = new SlabDunes();
        x.begin(4, 5, 6);
        for (int cell = 0; cell < 20; cell++) {
            x.setTuft(cell, 1 + cell);
        }
        x.set(3, 5);
        x.setFence(0, 50);
        x.setFence(7, 50);
        x.setFence(19, 50);
        x.run(400);
        int[] due = new int[20];
        int decreased = 0;
        for (int cell = 0; cell < 20; cell++) {
            boolean less = x.cell(cell, 5) > 2 || x.cell(cell, 5) < -2;
            due[cell] = less ? 0 : 11 + cell;
            decreased += less ? 1 : 0;
        }
        Check.that("the first and the last cell have grown", due[0] == 0 && due[19] == 0);
        Check.that("some have, some have not", decreased > 2 && decreased < 20);
        Check.equal("season", x.season(), decreased);
        for (int cell = 0; cell < 20; cell++) {
            Check.equal("the tuft of " + cell, x.cell(cell, 1), due[cell]);
        }
    }

    /** A season on a field without tufts ends, too. */
    private static void noTufts() {
        SlabDunes x = new SlabDunes();
        x.run(500);
        Check.equal("season", x.season(), 0);
        Check.equal("seasons", x.value(8), 1);
        for (int cell = 0; cell < 60; cell++) {
            Check.equal("no tuft comes up in " + cell, x.cell(cell, 1), 0);
        }
    }
}
