/** Promises 10 to 16: value, cell, count, latest, slabs, relief, shadowHeight. */
public final class ValuesTest {
    public static void main(String[] args) {
        promise10Value();
        promise11Cell();
        promise11Shadows();
        promise11ShadowsInLines();
        promise11ShadowsDownLongLines();
        promise12Count();
        promise13Latest();
        promise14Slabs();
        promise15Relief();
        promise16ShadowHeight();
        Check.end("ValuesTest");
    }

    private static void promise10Value() {
        SlabDunes x = new SlabDunes();
        x.begin(4, 7, 1);
        x.set(0, 8);
        x.set(1, 11);
        x.set(2, 22);
        x.set(3, 5);
        x.setWind(3, 777);
        x.season();
        x.season();
        int[] due = {8, 11, 22, 5, 4, 7, 3, 777, 2};
        for (int what = 0; what < due.length; what++) {
            Check.equal("value(" + what + ")", x.value(what), due[what]);
        }
        Check.refusesArgument(x, "value(-1)", () -> x.value(-1));
        Check.refusesArgument(x, "value(9)", () -> x.value(9));
        SlabDunes y = new SlabDunes();
        y.begin(3, 3, 0);
        y.run(1);
        Check.equal("s after the first number", y.value(7), 1103527590);
        y.run(1);
        Check.equal("s after the second number", y.value(7), (1103515245L * 1103527590L + 12345L) % 2147483648L);
    }

    private static void promise11Cell() {
        SlabDunes x = new SlabDunes();
        x.setHeight(11, 5);
        x.setTuft(11, 33);
        x.setFence(11, 44);
        int[] due = {5, 33, 44, 0, 0, 0};
        for (int what = 0; what < due.length; what++) {
            Check.equal("cell(11, " + what + ")", x.cell(11, what), due[what]);
        }
        int[] behind = {2, 0, -1, -1, 1, 0};
        for (int what = 0; what < behind.length; what++) {
            Check.equal("cell(12, " + what + ")", x.cell(12, what), behind[what]);
        }
        Check.refusesIndex(x, "cell(60, 0)", () -> x.cell(60, 0));
        Check.refusesIndex(x, "cell(-1, 6)", () -> x.cell(-1, 6));
        Check.refusesArgument(x, "cell(59, 6)", () -> x.cell(59, 6));
        Check.refusesArgument(x, "cell(0, -1)", () -> x.cell(0, -1));
    }

    /** Behind a height u alone on bare ground, the shadow reaches the distances d with 5 * u above 4 * d. */
    private static void promise11Shadows() {
        for (int height = 0; height <= 14; height++) {
            SlabDunes x = new SlabDunes();
            x.begin(3, 16, 0);
            x.setHeight(18, height);
            for (int distance = 1; distance < 16; distance++) {
                int cell = 16 + (2 + distance) % 16;
                int due = 5 * height > 4 * distance ? 1 : 0;
                Check.equal("height " + height + ", distance " + distance, x.cell(cell, 4), due);
            }
            Check.equal("no shadow of its own", x.cell(18, 4), 0);
            Check.equal("none in the row above", x.cell(3, 4), 0);
            Check.equal("none in the row below", x.cell(35, 4), 0);
        }
    }

    private static void promise11ShadowsInLines() {
        int[][] low = {{8, 2}};
        shaded(4, 7, low, 0, "9 10");
        shaded(4, 7, low, 1, "15 22");
        shaded(4, 7, low, 2, "7 13");
        shaded(4, 7, low, 3, "1 22");
        int[][] high = {{8, 99}};
        shaded(4, 7, high, 0, "7 9 10 11 12 13");
        shaded(4, 7, high, 1, "1 15 22");
        shaded(4, 7, high, 2, "7 9 10 11 12 13");
        shaded(4, 7, high, 3, "1 15 22");
        shaded(4, 7, new int[][] {{8, 99}, {10, 97}}, 0, "7 9 10 11 12 13");
        shaded(4, 7, new int[][] {{8, 99}, {10, 98}}, 0, "7 9 11 12 13");
    }

    /** In lines of 12 rows and 3 columns: a shadow goes as far as its line. */
    private static void promise11ShadowsDownLongLines() {
        int[][] height = {{1, 6}};
        shaded(12, 3, height, 1, "4 7 10 13 16 19 22");
        shaded(12, 3, height, 3, "16 19 22 25 28 31 34");
        shaded(12, 3, height, 0, "0 2");
        shaded(12, 3, height, 2, "0 2");
    }

    /** On a bare field with these heights: cell and height. */
    private static void shaded(int rows, int columns, int[][] heights, int direction, String due) {
        SlabDunes x = new SlabDunes();
        x.begin(rows, columns, 0);
        for (int[] height : heights) {
            x.setHeight(height[0], height[1]);
        }
        x.setWind(direction, SlabDunes.NONE);
        StringBuilder cells = new StringBuilder();
        for (int cell = 0; cell < rows * columns; cell++) {
            if (x.cell(cell, 4) == 1) {
                cells.append(cells.length() > 0 ? " " : "").append(cell);
            }
        }
        Texts.same("the shadows of the wind " + direction, cells.toString(), due);
    }

    private static void promise12Count() {
        SlabDunes x = new SlabDunes();
        x.begin(3, 3, 0);
        x.run(7);
        Check.equal("steps", x.count(0), 7);
        Check.equal("reason 1", x.count(1), 7);
        x.setHeight(0, 9);
        Check.equal("counts stay", x.count(1), 7);
        x.begin(3, 3, 0);
        Check.equal("counts of a new field", x.count(0), 0);
        Check.refusesArgument(x, "count(-1)", () -> x.count(-1));
        Check.refusesArgument(x, "count(12)", () -> x.count(12));
    }

    private static void promise13Latest() {
        SlabDunes x = new SlabDunes();
        x.begin(3, 3, 0);
        x.setWind(0, Chance.seed(9, 6));
        x.run(1);
        Texts.same("the latest step", Texts.latest(x), "1 6 -1 0");
        x.run(0);
        x.season();
        x.setHeight(6, 1);
        Texts.same("it stays", Texts.latest(x), "1 6 -1 0");
        x.begin(3, 3, 0);
        Texts.same("none on a new field", Texts.latest(x), "-1 -1 -1 -1");
        Texts.parse(x, "111/111/111");
        x.run(1);
        Check.that("a step", x.latest(0) != SlabDunes.NONE);
        x.parse();
        Texts.same("none on a field that was read", Texts.latest(x), "-1 -1 -1 -1");
        Check.refusesArgument(x, "latest(-1)", () -> x.latest(-1));
        Check.refusesArgument(x, "latest(4)", () -> x.latest(4));
    }

    private static void promise14Slabs() {
        SlabDunes x = new SlabDunes();
        Check.equal("slabs", x.slabs(), 120);
        x.setHeight(59, 99);
        Check.equal("slabs", x.slabs(), 217);
        x.begin(12, 16, 20);
        Check.equal("slabs", x.slabs(), 3840);
        x.begin(3, 3, 0);
        Check.equal("slabs", x.slabs(), 0);
        x.setFence(4, 5);
        x.setHeight(3, 1);
        x.setWind(0, Chance.seed(9, 3, 0, 99));
        x.run(1);
        Check.equal("the fence has trapped it", x.cell(4, 3), 1);
        Check.equal("a slab that was trapped is on the field", x.slabs(), 1);
    }

    private static void relief(String text, int... due) {
        SlabDunes x = Texts.field(text);
        for (int what = 0; what < due.length; what++) {
            Check.equal(text + ": relief(" + what + ")", x.relief(what), due[what]);
        }
    }

    private static void promise15Relief() {
        relief("000/000/000", 0, 0, 0, 9);
        relief("333/333/333", 3, 0, 0, 0);
        relief("1234/1334/1224", 4, 3, 3, 0);
        relief("0000/0070/0000", 7, 6, 7, 11);
        relief("55555/54321/55555/55555", 5, 0, 4, 0);
        relief("900/990/999", 9, 0, 9, 3);
        relief("2222/3333/4444/6666", 6, 12, 4, 0);
        relief("2346/2346/2346", 6, 3, 4, 0);
        relief("2222/2282/2222/2228", 8, 6, 6, 0);
        relief("131/111/111", 3, 1, 2, 0);
        relief("503/333/333", 5, 0, 5, 1);
        relief("533/033/333", 5, 0, 5, 1);
        SlabDunes x = new SlabDunes();
        Check.refusesArgument(x, "relief(-1)", () -> x.relief(-1));
        Check.refusesArgument(x, "relief(4)", () -> x.relief(4));
    }

    private static void promise16ShadowHeight() {
        SlabDunes x = new SlabDunes();
        Check.equal("without any", x.shadowHeight(), 0.0);
        Check.equal("2 and 1 behind 9", Texts.field("921/111/111").shadowHeight(), 1.5);
        Check.equal("1, 1 and 2", Texts.field("911200/000000/000000").shadowHeight(), 4.0 / 5.0);
        Check.equal("the first cell", Texts.field("490/000/000").shadowHeight(), (4.0 + 0.0) / 2.0);
        Check.equal("bare ground alone", Texts.field("900/000/000").shadowHeight(), 0.0);
        SlabDunes y = Texts.field("911/921/931");
        Check.equal("a wind to the right", y.shadowHeight(), (1.0 + 1 + 2 + 1 + 3 + 1) / 6.0);
        y.setWind(1, SlabDunes.NONE);
        Check.equal("a wind downward", y.shadowHeight(), 1.0);
        y.setWind(2, SlabDunes.NONE);
        Check.equal("a wind to the left", y.shadowHeight(), 9.0 / 6.0);
    }
}
