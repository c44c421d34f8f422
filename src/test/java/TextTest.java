/** Promises 23 to 25: append, clearText, parse. */
public final class TextTest {
    public static void main(String[] args) {
        promise23Append();
        promise23AppendRefuses();
        promise24ClearText();
        promise25Parse();
        promise25ParseKeepsTheWeather();
        promise25Errors();
        promise25GreatTexts();
        Check.end("TextTest");
    }

    private static void promise23Append() {
        SlabDunes x = new SlabDunes();
        Check.equal("append(0)", x.append(0), 1);
        Check.equal("append(127)", x.append(127), 2);
        Check.refuses(x, "append is not undoable", IllegalStateException.class, () -> x.undo());
        x.setHeight(0, 7);
        x.append(48);
        x.undo();
        Check.equal("undo leaves the text", x.clearText(), 3);
    }

    private static void promise23AppendRefuses() {
        SlabDunes x = new SlabDunes();
        Check.refusesArgument(x, "append(-1)", () -> x.append(-1));
        Check.refusesArgument(x, "append(128)", () -> x.append(128));
        for (int k = 1; k <= 220; k++) {
            Check.equal("append", x.append(65), k);
        }
        Check.refuses(x, "append to 220 bytes", IllegalStateException.class, () -> x.append(65));
        Check.refusesArgument(x, "append(128) to 220 bytes", () -> x.append(128));
        Check.equal("the length stays", x.clearText(), 220);
        Check.equal("append to the empty text", x.append(65), 1);
    }

    private static void promise24ClearText() {
        SlabDunes x = new SlabDunes();
        Check.equal("clearText", x.clearText(), 0);
        x.append(49);
        Check.equal("clearText", x.clearText(), 1);
        Check.equal("clearText", x.clearText(), 0);
        Check.refuses(x, "clearText is not undoable", IllegalStateException.class, () -> x.undo());
        Check.equal("parse of the empty text", x.parse(), -10);
    }

    private static void promise25Parse() {
        SlabDunes x = new SlabDunes();
        x.setHeight(0, 50);
        x.setTuft(1, 50);
        x.setFence(2, 50);
        x.run(100);
        x.season();
        Check.equal("parse", Texts.parse(x, "0123/4567/8909"), 12);
        Check.equal("rows", x.value(4), 3);
        Check.equal("columns", x.value(5), 4);
        Check.equal("seasons", x.value(8), 0);
        Texts.same("the heights", Texts.heights(x), "0123/4567/8909");
        int[] due = {0, -1, -1};
        for (int cell = 0; cell < 12; cell++) {
            for (int what = 1; what <= 3; what++) {
                Check.equal("cell(" + cell + ", " + what + ")", x.cell(cell, what), due[what - 1]);
            }
            Check.equal("it counts from its height", x.cell(cell, 5), 0);
        }
        for (int what = 0; what < 12; what++) {
            Check.equal("nothing slides, nothing is counted", x.count(what), 0);
        }
        Check.equal("no step", x.latest(1), SlabDunes.NONE);
        Check.equal("undo", x.undo(), 3);
        Check.equal("the field is back", x.value(5), 10);
        Check.equal("the seasons are back", x.value(8), 1);
        Check.equal("the text stays", x.clearText(), 14);
    }

    private static void promise25ParseKeepsTheWeather() {
        SlabDunes x = new SlabDunes();
        x.set(0, 7);
        x.set(1, 1);
        x.set(2, 99);
        x.set(3, 4);
        x.setWind(2, 4711);
        Texts.parse(x, "111/111/111");
        int[] due = {7, 1, 99, 4, 3, 3, 2, 4711, 0};
        for (int what = 0; what < due.length; what++) {
            Check.equal("value(" + what + ")", x.value(what), due[what]);
        }
        Check.equal("parse again: the text stays", x.parse(), 9);
    }

    private static void error(String text, int position) {
        SlabDunes x = new SlabDunes();
        Texts.append(x, text);
        long before = x.digest();
        Check.equal("parse of " + text, x.parse(), -10 - position);
        Check.equal("nothing changes by " + text, x.digest(), before);
        Check.equal("the text stays", x.clearText(), text.length());
    }

    private static void promise25Errors() {
        error("", 0);
        error("1", 1);
        error("11", 2);
        error("/", 0);
        error("1/", 1);
        error("11/", 2);
        error("111", 3);
        error("111/", 4);
        error("111//", 4);
        error("111/1", 5);
        error("111/11", 6);
        error("111/11/111", 6);
        error("111/1111/111", 7);
        error("111/111", 7);
        error("111/111/", 8);
        error("111/111/1", 9);
        error("111/111/11", 10);
        error("111/111/111/", 12);
        error("111/111/1111", 11);
        error("111/111/111/1", 13);
        error("111/111/111/11/", 14);
        error("1111/111/1111", 8);
        error("111/1a1/111", 5);
        error("a", 0);
        error("111/111/111 ", 11);
        error("111/111/111" + (char) 0, 11);
        error("11:/111/111", 2);
        error("111." + "111.111", 3);
        error("-11/111/111", 0);
    }

    private static void promise25GreatTexts() {
        String row = "1234567890123456";
        SlabDunes x = new SlabDunes();
        Check.equal("12 rows of 16", Texts.parse(x, Texts.rows(12, row)), 192);
        Texts.same("its heights", Texts.heights(x), Texts.rows(12, row));
        Check.equal("12 rows of 3", Texts.parse(x, Texts.rows(12, "123")), 36);
        Check.equal("3 rows of 16", Texts.parse(x, Texts.rows(3, row)), 48);
        error(Texts.rows(12, row) + "/", 203);
        error(Texts.rows(12, row) + "1", 203);
        error(Texts.rows(12, row) + "/" + row, 203);
        error(Texts.rows(13, "111"), 47);
        error(Texts.rows(12, "111") + "/", 47);
        error(Texts.rows(11, "111") + "/", 44);
        error(Texts.rows(11, "111") + "/11", 46);
        error(row + "7", 16);
        error(row + "7/" + row, 16);
        error(row, 16);
        error(row + "/" + row + "7", 33);
        error(Texts.rows(12, row).substring(0, 202), 202);
    }
}
