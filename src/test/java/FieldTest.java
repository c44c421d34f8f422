/** Promises 1 to 7: a new object, begin, setHeight, setTuft, setFence, set, setWind. */
public final class FieldTest {
    public static void main(String[] args) {
        promise01NewObject();
        promise02Begin();
        promise02BeginOnAUsedField();
        promise02BeginRefuses();
        promise03SetHeight();
        promise03SetHeightRefuses();
        promise04SetTuft();
        promise04SetTuftRefuses();
        promise05SetFence();
        promise05SetFenceRefuses();
        promise06Set();
        promise06SetRefuses();
        promise07SetWind();
        promise07SetWindRefuses();
        Check.end("FieldTest");
    }

    private static void initially(String when, Fresh.Maker maker, int rows, int columns, int height) {
        Fresh fresh = new Fresh(maker);
        int[] values = {3, 60, 40, 2, rows, columns, 0, 1, 0};
        for (int what = 0; what < values.length; what++) {
            Check.equal(when + ": value(" + what + ")", fresh.object().value(what), values[what]);
        }
        int[] numbers = {height, 0, -1, -1, 0, 0};
        for (int cell = 0; cell < rows * columns; cell++) {
            for (int what = 0; what < numbers.length; what++) {
                Check.equal(when + ": cell(" + cell + ", " + what + ")", fresh.object().cell(cell, what), numbers[what]);
            }
        }
        SlabDunes x = maker.make();
        Check.refusesIndex(x, when + ": the cell behind the last", () -> x.cell(rows * columns, 0));
        for (int what = 0; what < 12; what++) {
            Check.equal(when + ": count(" + what + ")", x.count(what), 0);
        }
        for (int what = 0; what < 4; what++) {
            Check.equal(when + ": latest(" + what + ")", x.latest(what), SlabDunes.NONE);
        }
    }

    private static void promise01NewObject() {
        initially("new", () -> new SlabDunes(), 6, 10, 2);
        SlabDunes x = new SlabDunes();
        Check.equal("the text of a new object", x.clearText(), 0);
        Check.refuses(x, "undo of a new object", IllegalStateException.class, () -> x.undo());
        SlabDunes other = new SlabDunes();
        other.setHeight(0, 9);
        Check.equal("objects share nothing", x.cell(0, 0), 2);
    }

    private static SlabDunes begun(int rows, int columns, int height) {
        SlabDunes x = used();
        Check.equal("begin(" + rows + ", " + columns + ", " + height + ")", x.begin(rows, columns, height), rows * columns);
        return x;
    }

    private static SlabDunes used() {
        SlabDunes x = new SlabDunes();
        Texts.append(x, "12");
        x.set(0, 5);
        x.set(1, 61);
        x.set(2, 41);
        x.set(3, 3);
        x.setWind(2, 99);
        x.setTuft(7, 70);
        x.setFence(8, 7);
        x.setHeight(3, 40);
        x.run(200);
        x.season();
        return x;
    }

    private static void promise02Begin() {
        initially("begin(3, 16, 20)", () -> begun(3, 16, 20), 3, 16, 20);
        initially("begin(12, 3, 0)", () -> begun(12, 3, 0), 12, 3, 0);
        initially("begin(12, 16, 1)", () -> begun(12, 16, 1), 12, 16, 1);
        initially("begin(4, 5, 6)", () -> begun(4, 5, 6), 4, 5, 6);
        initially("undo of begin", () -> undone(), 12, 3, 0);
    }

    private static SlabDunes undone() {
        SlabDunes x = begun(12, 3, 0);
        x.begin(12, 16, 1);
        Check.equal("undo", x.undo(), 3);
        return x;
    }

    private static void promise02BeginOnAUsedField() {
        SlabDunes x = begun(4, 5, 6);
        Check.equal("the text stays", x.clearText(), 2);
        Check.equal("undo after begin", x.undo(), 3);
        Check.equal("the seasons are back", x.value(8), 1);
        Check.equal("the wind is back", x.value(6), 2);
    }

    private static void promise02BeginRefuses() {
        SlabDunes x = new SlabDunes();
        int[][] wrong = {{2, 3, 0}, {13, 3, 0}, {3, 2, 0}, {3, 17, 0}, {3, 3, -1}, {3, 3, 21}, {-3, -3, 0},
            {Integer.MAX_VALUE, 3, 0}, {3, Integer.MIN_VALUE, 0}};
        for (int[] w : wrong) {
            Check.refusesArgument(x, "begin(" + w[0] + ", " + w[1] + ", " + w[2] + ")", () -> x.begin(w[0], w[1], w[2]));
        }
    }

    private static void promise03SetHeight() {
        SlabDunes x = new SlabDunes();
        Check.equal("setHeight(59, 99)", x.setHeight(59, 99), 2);
        Check.equal("its height", x.cell(59, 0), 99);
        Check.equal("it counts from that height", x.cell(59, 5), 0);
        Check.equal("nothing slides", x.slabs(), 59 * 2 + 99);
        Check.equal("nothing slides", x.cell(58, 0), 2);
        Check.equal("no slide is counted", x.count(9), 0);
        Check.equal("setHeight(59, 0)", x.setHeight(59, 0), 99);
        Check.equal("undo", x.undo(), 1);
        Check.equal("the height is back", x.cell(59, 0), 99);
        growthEndsByHand();
    }

    private static void growthEndsByHand() {
        SlabDunes x = new SlabDunes();
        x.setHeight(0, 9);
        x.setWind(0, Chance.seed(60, 0, 0, 99));
        x.run(1);
        int height = x.cell(0, 0);
        Check.that("the cell has lost slabs", x.cell(0, 5) < 0);
        x.setHeight(0, height);
        Check.equal("the same height by hand, too, is what the cell counts from", x.cell(0, 5), 0);
        x.undo();
        Check.equal("undo restores the height of the season before", x.cell(0, 5), height - 9);
    }

    private static void promise03SetHeightRefuses() {
        SlabDunes x = new SlabDunes();
        Check.refusesIndex(x, "setHeight(60, 0)", () -> x.setHeight(60, 0));
        Check.refusesIndex(x, "setHeight(-1, 0)", () -> x.setHeight(-1, 0));
        Check.refusesIndex(x, "setHeight(60, 100)", () -> x.setHeight(60, 100));
        Check.refusesIndex(x, "setHeight(191, 0)", () -> x.setHeight(191, 0));
        Check.refusesArgument(x, "setHeight(0, 100)", () -> x.setHeight(0, 100));
        Check.refusesArgument(x, "setHeight(0, -1)", () -> x.setHeight(0, -1));
    }

    private static void promise04SetTuft() {
        SlabDunes x = new SlabDunes();
        Check.equal("setTuft(59, 100)", x.setTuft(59, 100), 0);
        Check.equal("its tuft", x.cell(59, 1), 100);
        Check.equal("the tuft of another", x.cell(58, 1), 0);
        Check.equal("setTuft(59, 0)", x.setTuft(59, 0), 100);
        Check.equal("undo", x.undo(), 1);
        Check.equal("the tuft is back", x.cell(59, 1), 100);
    }

    private static void promise04SetTuftRefuses() {
        SlabDunes x = new SlabDunes();
        Check.refusesIndex(x, "setTuft(60, 0)", () -> x.setTuft(60, 0));
        Check.refusesIndex(x, "setTuft(-1, 101)", () -> x.setTuft(-1, 101));
        Check.refusesArgument(x, "setTuft(0, 101)", () -> x.setTuft(0, 101));
        Check.refusesArgument(x, "setTuft(0, -1)", () -> x.setTuft(0, -1));
    }

    private static void promise05SetFence() {
        SlabDunes x = new SlabDunes();
        Check.equal("setFence(2, 50)", x.setFence(2, 50), SlabDunes.NONE);
        Check.equal("its capacity", x.cell(2, 2), 50);
        Check.equal("it has trapped nothing", x.cell(2, 3), 0);
        x.setWind(0, Chance.seed(60, 1, 0, 99));
        x.run(1);
        Check.equal("it has trapped one", x.cell(2, 3), 1);
        Check.equal("setFence(2, 1)", x.setFence(2, 1), 1);
        Check.equal("the new capacity", x.cell(2, 2), 1);
        Check.equal("the new one has trapped nothing", x.cell(2, 3), 0);
        Check.equal("setFence(2, NONE)", x.setFence(2, SlabDunes.NONE), 0);
        Check.equal("no fence", x.cell(2, 2), SlabDunes.NONE);
        Check.equal("no fence", x.cell(2, 3), SlabDunes.NONE);
        Check.equal("setFence(2, NONE) again", x.setFence(2, SlabDunes.NONE), SlabDunes.NONE);
        Check.equal("undo", x.undo(), 3);
        Check.equal("undo", x.undo(), 2);
        Check.equal("the fence is back", x.cell(2, 2), 1);
        Check.equal("undo", x.undo(), 1);
        Check.equal("the first fence is back", x.cell(2, 3), 1);
    }

    private static void promise05SetFenceRefuses() {
        SlabDunes x = new SlabDunes();
        x.setFence(0, 3);
        Check.refusesIndex(x, "setFence(60, 1)", () -> x.setFence(60, 1));
        Check.refusesIndex(x, "setFence(-1, 0)", () -> x.setFence(-1, 0));
        Check.refusesArgument(x, "setFence(0, 0)", () -> x.setFence(0, 0));
        Check.refusesArgument(x, "setFence(0, 51)", () -> x.setFence(0, 51));
        Check.refusesArgument(x, "setFence(0, -2)", () -> x.setFence(0, -2));
    }

    private static void promise06Set() {
        SlabDunes x = new SlabDunes();
        int[] initially = {3, 60, 40, 2};
        int[] least = {1, 0, 0, 1};
        int[] most = {8, 100, 100, 5};
        for (int what = 0; what < 4; what++) {
            Check.equal("set(" + what + ", least)", x.set(what, least[what]), initially[what]);
            Check.equal("value(" + what + ")", x.value(what), least[what]);
            Check.equal("set(" + what + ", most)", x.set(what, most[what]), least[what]);
            Check.equal("value(" + what + ")", x.value(what), most[what]);
        }
        Check.equal("undo", x.undo(), 3);
        Check.equal("the slope is back", x.value(3), 1);
    }

    private static void promise06SetRefuses() {
        SlabDunes x = new SlabDunes();
        int[][] wrong = {{-1, 1}, {4, 1}, {0, 0}, {0, 9}, {1, -1}, {1, 101}, {2, -1}, {2, 101}, {3, 0}, {3, 6}};
        for (int[] w : wrong) {
            Check.refusesArgument(x, "set(" + w[0] + ", " + w[1] + ")", () -> x.set(w[0], w[1]));
        }
    }

    private static void promise07SetWind() {
        SlabDunes x = new SlabDunes();
        Check.equal("setWind(3, 999999)", x.setWind(3, 999999), 0);
        Check.equal("the direction", x.value(6), 3);
        Check.equal("s", x.value(7), 999999);
        Check.equal("setWind(1, NONE)", x.setWind(1, SlabDunes.NONE), 3);
        Check.equal("s stays", x.value(7), 999999);
        Check.equal("setWind(0, 0)", x.setWind(0, 0), 1);
        Check.equal("s", x.value(7), 0);
        Check.equal("undo", x.undo(), 2);
        Check.equal("the direction is back", x.value(6), 1);
        Check.equal("s is back", x.value(7), 999999);
    }

    private static void promise07SetWindRefuses() {
        SlabDunes x = new SlabDunes();
        int[][] wrong = {{-1, 0}, {4, 0}, {0, 1000000}, {0, -2}, {4, -2}};
        for (int[] w : wrong) {
            Check.refusesArgument(x, "setWind(" + w[0] + ", " + w[1] + ")", () -> x.setWind(w[0], w[1]));
        }
    }
}
