/**
 * Every refused call of the document, on several objects: it throws the exception that is listed, the first listed one
 * where several apply, and "a call that throws an exception changes nothing": neither what can be asked, nor a saved
 * state, nor the text.
 */
public final class RefusalTest {
    private static final int LEAST_INT = Integer.MIN_VALUE;
    private static final int MOST_INT = Integer.MAX_VALUE;

    private interface Deed {
        long of(SlabDunes x);
    }

    private final String name;
    private final Fresh.Maker maker;
    private final int cells;
    private final int columns;
    private final String untouched;

    private RefusalTest(String name, Fresh.Maker maker) {
        this.name = name;
        this.maker = maker;
        SlabDunes x = maker.make();
        columns = x.value(5);
        cells = x.value(4) * columns;
        untouched = Whole.of(x);
    }

    public static void main(String[] args) {
        RefusalTest fresh = new RefusalTest("new object", () -> new SlabDunes());
        RefusalTest busy = new RefusalTest("busy field", () -> Busy.small());
        RefusalTest great = new RefusalTest("great field", () -> Busy.great());
        fresh.all();
        busy.all();
        great.all();
        new RefusalTest("least field", () -> least()).all();
        fresh.undoWithoutASavedState();
        great.appendToAFullText();
        fresh.parseOf("the empty text", -10);
        busy.parseOf("a text that ends too early", -20);
        great.parseOf("a text that is too long", -213);
        Check.end("RefusalTest");
    }

    private static SlabDunes least() {
        SlabDunes x = new SlabDunes();
        x.begin(3, 3, 0);
        return x;
    }

    private void all() {
        begin();
        byHand();
        settings();
        steps();
        questions();
        dunes();
        whatIf();
        append();
    }

    /** The least value minus 1, the greatest plus 1, and the ends of the numbers. */
    private static int[] outside(int least, int most) {
        return new int[] {least - 1, most + 1, LEAST_INT, MOST_INT};
    }

    private void argument(String what, Deed deed) {
        refused(what, "IllegalArgumentException", deed);
    }

    private void index(String what, Deed deed) {
        refused(what, "IndexOutOfBoundsException", deed);
    }

    private void refused(String what, String due, Deed deed) {
        SlabDunes x = maker.make();
        String call = name + ": " + what;
        Texts.same(call, Check.outcome(() -> deed.of(x)), due);
        Texts.same(call + " once more", Check.outcome(() -> deed.of(x)), due);
        Texts.same(call + ": the object after it", Whole.of(x), untouched);
    }

    private void begin() {
        for (int bad : outside(3, 12)) {
            argument("begin(" + bad + ", 3, 0)", x -> x.begin(bad, 3, 0));
            argument("begin(" + bad + ", 16, 20)", x -> x.begin(bad, 16, 20));
        }
        for (int bad : outside(3, 16)) {
            argument("begin(3, " + bad + ", 0)", x -> x.begin(3, bad, 0));
            argument("begin(12, " + bad + ", 20)", x -> x.begin(12, bad, 20));
        }
        for (int bad : outside(0, 20)) {
            argument("begin(3, 3, " + bad + ")", x -> x.begin(3, 3, bad));
            argument("begin(12, 16, " + bad + ")", x -> x.begin(12, 16, bad));
        }
        argument("begin(0, 0, 0)", x -> x.begin(0, 0, 0));
        argument("begin(13, 17, 21)", x -> x.begin(13, 17, 21));
        argument("begin(16, 12, 2): rows and columns the other way", x -> x.begin(16, 12, 2));
    }

    private void byHand() {
        for (int bad : outside(0, cells - 1)) {
            index("setHeight(" + bad + ", 0)", x -> x.setHeight(bad, 0));
            index("setHeight(" + bad + ", 100): the cell is listed first", x -> x.setHeight(bad, 100));
            index("setTuft(" + bad + ", 0)", x -> x.setTuft(bad, 0));
            index("setTuft(" + bad + ", 101): the cell is listed first", x -> x.setTuft(bad, 101));
            index("setFence(" + bad + ", 1)", x -> x.setFence(bad, 1));
            index("setFence(" + bad + ", NONE)", x -> x.setFence(bad, SlabDunes.NONE));
            index("setFence(" + bad + ", 0): the cell is listed first", x -> x.setFence(bad, 0));
        }
        for (int cell : new int[] {0, cells - 1}) {
            for (int bad : outside(0, 99)) {
                argument("setHeight(" + cell + ", " + bad + ")", x -> x.setHeight(cell, bad));
            }
            for (int bad : outside(0, 100)) {
                argument("setTuft(" + cell + ", " + bad + ")", x -> x.setTuft(cell, bad));
            }
            for (int bad : new int[] {0, 51, SlabDunes.NONE - 1, LEAST_INT, MOST_INT}) {
                argument("setFence(" + cell + ", " + bad + ")", x -> x.setFence(cell, bad));
            }
        }
    }

    private void settings() {
        int[] least = {1, 0, 0, 1};
        int[] most = {8, 100, 100, 5};
        for (int what = 0; what < 4; what++) {
            int setting = what;
            for (int bad : outside(least[what], most[what])) {
                argument("set(" + setting + ", " + bad + ")", x -> x.set(setting, bad));
            }
        }
        for (int bad : outside(0, 3)) {
            argument("set(" + bad + ", 1)", x -> x.set(bad, 1));
            argument("set(" + bad + ", 101)", x -> x.set(bad, 101));
            argument("setWind(" + bad + ", 0)", x -> x.setWind(bad, 0));
            argument("setWind(" + bad + ", NONE)", x -> x.setWind(bad, SlabDunes.NONE));
        }
        for (int bad : new int[] {SlabDunes.NONE - 1, 1000000, LEAST_INT, MOST_INT}) {
            argument("setWind(0, " + bad + ")", x -> x.setWind(0, bad));
            argument("setWind(3, " + bad + ")", x -> x.setWind(3, bad));
            argument("setWind(4, " + bad + ")", x -> x.setWind(4, bad));
        }
    }

    private void steps() {
        for (int bad : outside(0, 2000)) {
            argument("run(" + bad + ")", x -> x.run(bad));
        }
    }

    private void questions() {
        for (int bad : outside(0, 8)) {
            argument("value(" + bad + ")", x -> x.value(bad));
        }
        for (int bad : outside(0, 11)) {
            argument("count(" + bad + ")", x -> x.count(bad));
        }
        for (int bad : outside(0, 3)) {
            argument("latest(" + bad + ")", x -> x.latest(bad));
            argument("relief(" + bad + ")", x -> x.relief(bad));
        }
        for (int bad : outside(0, 5)) {
            argument("cell(0, " + bad + ")", x -> x.cell(0, bad));
            argument("cell(" + (cells - 1) + ", " + bad + ")", x -> x.cell(cells - 1, bad));
        }
        for (int bad : outside(0, cells - 1)) {
            index("cell(" + bad + ", 0)", x -> x.cell(bad, 0));
            index("cell(" + bad + ", 5)", x -> x.cell(bad, 5));
            index("cell(" + bad + ", 6): the cell is listed first", x -> x.cell(bad, 6));
            index("cell(" + bad + ", -1): the cell is listed first", x -> x.cell(bad, -1));
        }
    }

    private void dunes() {
        for (int bad : outside(1, 99)) {
            argument("dunes(" + bad + ")", x -> x.dunes(bad));
            argument("greatestDune(" + bad + ")", x -> x.greatestDune(bad));
            argument("duneOf(0, " + bad + ")", x -> x.duneOf(0, bad));
            argument("duneOf(" + (cells - 1) + ", " + bad + ")", x -> x.duneOf(cells - 1, bad));
        }
        for (int bad : outside(0, cells - 1)) {
            index("duneOf(" + bad + ", 1)", x -> x.duneOf(bad, 1));
            index("duneOf(" + bad + ", 99)", x -> x.duneOf(bad, 99));
            index("duneOf(" + bad + ", 0): the cell is listed first", x -> x.duneOf(bad, 0));
            index("duneOf(" + bad + ", 100): the cell is listed first", x -> x.duneOf(bad, 100));
        }
    }

    private void whatIf() {
        for (int bad : outside(0, 1000)) {
            argument("dunesAfter(" + bad + ", 1)", x -> x.dunesAfter(bad, 1));
            argument("dunesAfter(" + bad + ", 100)", x -> x.dunesAfter(bad, 100));
        }
        for (int bad : outside(1, 99)) {
            argument("dunesAfter(0, " + bad + ")", x -> x.dunesAfter(0, bad));
            argument("dunesAfter(1000, " + bad + ")", x -> x.dunesAfter(1000, bad));
        }
        for (int bad : outside(0, 500)) {
            argument("bestFence(0, " + bad + ")", x -> x.bestFence(0, bad));
            argument("bestFence(" + (columns - 1) + ", " + bad + ")", x -> x.bestFence(columns - 1, bad));
            argument("liveliestWind(" + bad + ")", x -> x.liveliestWind(bad));
        }
        for (int bad : outside(0, columns - 1)) {
            index("bestFence(" + bad + ", 0)", x -> x.bestFence(bad, 0));
            index("bestFence(" + bad + ", 500)", x -> x.bestFence(bad, 500));
            index("bestFence(" + bad + ", 501): the column is listed first", x -> x.bestFence(bad, 501));
            index("bestFence(" + bad + ", -1): the column is listed first", x -> x.bestFence(bad, -1));
        }
    }

    private void append() {
        for (int bad : outside(0, 127)) {
            argument("append(" + bad + ")", x -> x.append(bad));
        }
    }

    private void appendToAFullText() {
        for (int value : new int[] {0, '0', '/', 127}) {
            refused("append(" + value + ") to 220 bytes", "IllegalStateException", x -> x.append(value));
        }
        for (int bad : outside(0, 127)) {
            argument("append(" + bad + ") to 220 bytes: the value is listed first", x -> x.append(bad));
        }
    }

    private void undoWithoutASavedState() {
        refused("undo without a saved state", "IllegalStateException", x -> x.undo());
    }

    /** No exception, but "then nothing changes", too; nor is a state saved or dropped. */
    private void parseOf(String what, int due) {
        refused("parse of " + what, Integer.toString(due), x -> x.parse());
    }
}
