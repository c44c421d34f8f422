/** One step by a wind and a number s, and all that it must come to. */
final class Step {
    private Step() {
    }

    /** For an object without a step before; the draws are the numbers that are drawn, the one of the cell included. */
    static void is(String what, SlabDunes x, int direction, int s, String latest, String heights, int draws) {
        x.setWind(direction, s);
        int lifted = x.run(1);
        Texts.same(what + ": the latest step", Texts.latest(x), latest);
        Texts.same(what + ": the heights", Texts.heights(x), heights);
        Check.equal(what + ": s", x.value(7), Chance.after(s, draws));
        Check.equal(what + ": lifted", lifted, x.latest(0) >= 5 ? 1 : 0);
        Check.equal(what + ": the reason is counted", x.count(x.latest(0)), 1);
        Check.equal(what + ": steps", x.count(0), 1);
    }

    /** A step that draws this cell, and a number from 0 to 99 afterwards as it comes. */
    static int of(SlabDunes x, int direction, int cell) {
        x.setWind(direction, Chance.seed(x.value(4) * x.value(5), cell));
        return x.run(1);
    }
}
