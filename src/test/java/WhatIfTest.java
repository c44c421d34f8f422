/** Promises 20 to 22: dunesAfter, bestFence, liveliestWind. Each is compared with what run() then does. */
public final class WhatIfTest {
    public static void main(String[] args) {
        promise20DunesAfter();
        promise21BestFence();
        promise21BestFenceEdges();
        promise22LiveliestWind();
        refused();
        Check.end("WhatIfTest");
    }

    /** A field in the midst of its life. */
    private static SlabDunes lively(int seed) {
        SlabDunes x = new SlabDunes();
        x.begin(3 + seed % 5, 4 + seed % 7, 2 + seed % 3);
        x.setWind(seed % 4, 1000 + seed);
        x.setTuft(seed % 12, 80);
        x.setFence(5, 2);
        x.run(150 + seed);
        return x;
    }

    private static void promise20DunesAfter() {
        for (int seed = 0; seed < 12; seed++) {
            SlabDunes x = lively(seed);
            long before = x.digest();
            int threshold = 2 + seed % 3;
            int steps = seed == 0 ? 0 : seed == 1 ? 1000 : 70 * seed;
            int answer = x.dunesAfter(steps, threshold);
            Check.equal("dunesAfter changes nothing", x.digest(), before);
            Check.equal("dunesAfter again", x.dunesAfter(steps, threshold), answer);
            x.run(steps);
            Check.equal("dunesAfter(" + steps + ", " + threshold + ")", x.dunes(threshold), answer);
        }
    }

    private static void promise21BestFence() {
        for (int seed = 0; seed < 12; seed++) {
            SlabDunes x = lively(seed);
            long before = x.digest();
            int column = seed % x.value(5);
            int steps = seed == 1 ? 500 : 30 * seed;
            int answer = x.bestFence(column, steps);
            Check.equal("bestFence changes nothing", x.digest(), before);
            int best = SlabDunes.NONE;
            int most = -1;
            for (int row = 0; row < x.value(4); row++) {
                int cell = row * x.value(5) + column;
                if (x.cell(cell, 2) == SlabDunes.NONE) {
                    x.setFence(cell, 50);
                    x.run(steps);
                    int trapped = x.cell(cell, 3);
                    x.undo();
                    x.undo();
                    if (trapped > most) {
                        most = trapped;
                        best = row;
                    }
                }
            }
            Check.equal("bestFence(" + column + ", " + steps + ")", answer, best);
        }
    }

    private static void promise21BestFenceEdges() {
        SlabDunes x = new SlabDunes();
        Check.equal("without steps the lowest row", x.bestFence(9, 0), 0);
        x.setFence(9, 50);
        Check.equal("the lowest row without a fence", x.bestFence(9, 0), 1);
        for (int row = 1; row < 6; row++) {
            x.setFence(row * 10 + 9, 1);
        }
        Check.equal("a fence everywhere", x.bestFence(9, 500), SlabDunes.NONE);
        // Only the cell 4 has slabs, nothing slides, and the wind blows along its row.
        SlabDunes y = Texts.field("000/050/000");
        y.set(3, 5);
        Check.equal("the row of the sand", y.bestFence(2, 50), 1);
        capacityOfFifty();
    }

    /** So much sand that fences in several rows are full in the end: then the lowest of these rows is the best. */
    private static void capacityOfFifty() {
        SlabDunes x = new SlabDunes();
        x.begin(3, 3, 20);
        x.set(0, 1);
        x.set(3, 1);
        x.setWind(0, 0);
        int full = 0;
        for (int steps = 300; steps <= 400; steps += 5) {
            int best = 0;
            int most = -1;
            for (int row = 0; row < 3; row++) {
                int trapped = trappedInRow(x, row, steps);
                full += trapped == 50 ? 1 : 0;
                if (trapped > most) {
                    best = row;
                    most = trapped;
                }
            }
            Check.equal("bestFence(1, " + steps + ")", x.bestFence(1, steps), best);
        }
        Check.that("fences are full", full > 6);
    }

    private static int trappedInRow(SlabDunes x, int row, int steps) {
        x.setFence(row * 3 + 1, 50);
        x.run(steps);
        int trapped = x.cell(row * 3 + 1, 3);
        x.undo();
        x.undo();
        return trapped;
    }

    private static void promise22LiveliestWind() {
        for (int seed = 0; seed < 12; seed++) {
            SlabDunes x = lively(seed);
            long before = x.digest();
            int steps = seed == 1 ? 500 : 25 * seed;
            int answer = x.liveliestWind(steps);
            Check.equal("liveliestWind changes nothing", x.digest(), before);
            int best = 0;
            int most = -1;
            for (int direction = 0; direction < 4; direction++) {
                x.setWind(direction, SlabDunes.NONE);
                int lifted = x.run(steps);
                x.undo();
                x.undo();
                if (lifted > most) {
                    most = lifted;
                    best = direction;
                }
            }
            Check.equal("liveliestWind(" + steps + ")", answer, best);
        }
        SlabDunes x = new SlabDunes();
        x.setWind(3, 7);
        Check.equal("of several the lowest", x.liveliestWind(0), 0);
        // The cell 4 is shaded by a wind to the right and downward alone, and it is drawn first.
        SlabDunes y = Texts.field("020/210/000");
        y.setWind(0, Chance.seed(9, 4, 0, 99));
        Check.equal("the first wind that lifts", y.liveliestWind(1), 2);
    }

    private static void refused() {
        SlabDunes x = new SlabDunes();
        Check.refusesArgument(x, "dunesAfter(-1, 1)", () -> x.dunesAfter(-1, 1));
        Check.refusesArgument(x, "dunesAfter(1001, 1)", () -> x.dunesAfter(1001, 1));
        Check.refusesArgument(x, "dunesAfter(0, 0)", () -> x.dunesAfter(0, 0));
        Check.refusesArgument(x, "dunesAfter(0, 100)", () -> x.dunesAfter(0, 100));
        Check.refusesIndex(x, "bestFence(10, 0)", () -> x.bestFence(10, 0));
        Check.refusesIndex(x, "bestFence(-1, 501)", () -> x.bestFence(-1, 501));
        Check.refusesArgument(x, "bestFence(9, 501)", () -> x.bestFence(9, 501));
        Check.refusesArgument(x, "bestFence(0, -1)", () -> x.bestFence(0, -1));
        Check.refusesArgument(x, "liveliestWind(-1)", () -> x.liveliestWind(-1));
        Check.refusesArgument(x, "liveliestWind(501)", () -> x.liveliestWind(501));
    }
}
