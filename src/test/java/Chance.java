/** The document's chance, by itself, and numbers s with which it draws what a test needs. */
final class Chance {
    private long s;

    Chance(long s) {
        this.s = s;
    }

    int draw(int n) {
        s = (1103515245L * s + 12345L) % (1L << 31);
        return (int) (s / 65536 % n);
    }

    int s() {
        return (int) s;
    }

    /** The number s after so many numbers have been drawn. */
    static int after(int s, int draws) {
        Chance chance = new Chance(s);
        for (int k = 0; k < draws; k++) {
            chance.draw(1);
        }
        return chance.s();
    }

    /**
     * A number s with which, of so many cells, this one is drawn, and the next numbers below 100 lie in the ranges
     * that follow: least, most, least, most ..
     */
    static int seed(int cells, int cell, int... ranges) {
        for (int s = 0; s <= 999999; s++) {
            Chance chance = new Chance(s);
            boolean fits = chance.draw(cells) == cell;
            for (int k = 0; fits && k < ranges.length; k += 2) {
                int roll = chance.draw(100);
                fits = roll >= ranges[k] && roll <= ranges[k + 1];
            }
            if (fits) {
                return s;
            }
        }
        throw new IllegalStateException("no such s");
    }
}
