/** Fields with cells that have grown, or lost, a number of slabs by the wind. */
final class Grown {
    private Grown() {
    }

    /** A field whose cell 4 has grown by this number since it was laid, without slides, and has this tuft. */
    static SlabDunes by(int growth, int tuft) {
        SlabDunes x = Texts.field("555/555/555");
        x.set(0, 1);
        x.set(3, 5);
        grow(x, growth);
        x.setTuft(4, tuft);
        return x;
    }

    /** The same once more, on a field that by() has made. */
    static void grow(SlabDunes x, int growth) {
        int before = x.cell(4, 5);
        int height = x.cell(4, 0);
        for (int k = 0; k < growth; k++) {
            x.setHeight(3, height + 4);
            x.setWind(0, Chance.seed(9, 3, 0, 99));
            Check.equal("a slab is lifted", x.run(1), 1);
        }
        for (int k = 0; k < -growth; k++) {
            x.setHeight(3, height - 4);
            x.setHeight(5, height - 4);
            x.setWind(0, Chance.seed(9, 4, 0, 99));
            Check.equal("a slab is lifted", x.run(1), 1);
        }
        Check.equal("the cell has grown", x.cell(4, 5), before + growth);
    }
}
