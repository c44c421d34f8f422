/** Boundary cases of the field text and of the promises 23 to 25; above each test stands the sentence that it tests. */
public final class TextEdgesTest {
    private static final String GREAT_ROW = "1234567890123456";

    public static void main(String[] args) {
        eachByte();
        fullText();
        lengthOfTheText();
        emptiedText();
        eachSize();
        eachDigit();
        rowsAndColumnsInOrder();
        emptyText();
        endsTooEarly();
        endsBehindASeparator();
        endsOfTheGreatestText();
        separatorWhereTheFirstRowIsTooShort();
        separatorWhereAnotherRowIsTooShort();
        digitWhereTheFirstRowIsTooLong();
        digitWhereAnotherRowIsTooLong();
        separatorBehindTheTwelfthRow();
        textBehindTheTwelfthRow();
        bytesThatStandNowhere();
        firstErrorOfSeveral();
        longestText();
        errorChangesNothing();
        parseAgain();
        parseTakesTheTextAsItIs();
        nothingSlides();
        parseBeginsAnew();
        textIsNotSaved();
        Check.end("TextEdgesTest");
    }

    /** What parse() answers for a text, asked of a new object; the text stays as it is. */
    private static void answers(String text, int due) {
        SlabDunes x = new SlabDunes();
        Texts.append(x, text);
        Check.equal("parse of " + text, x.parse(), due);
        Check.equal("parse of " + text + " once more", x.parse(), due);
        Check.equal("the length of " + text + " stays", x.clearText(), text.length());
    }

    private static void error(String text, int position) {
        answers(text, -10 - position);
    }

    /** "value: the byte, 0 to 127", "Returns the new length of the text." */
    private static void eachByte() {
        SlabDunes x = new SlabDunes();
        for (int value = 0; value <= 127; value++) {
            Check.equal("append(" + value + ")", x.append(value), value + 1);
        }
        Check.equal("the length", x.clearText(), 128);
    }

    /** "The text has at most 220 bytes", "IllegalStateException if the text has 220 bytes" */
    private static void fullText() {
        SlabDunes x = new SlabDunes();
        for (int length = 1; length <= 220; length++) {
            Check.equal("append", x.append('0'), length);
        }
        Texts.same("append to 220 bytes", Check.outcome(() -> x.append('0')), "IllegalStateException");
        Texts.same("append once more", Check.outcome(() -> x.append(127)), "IllegalStateException");
        Texts.same("both: the value is listed first", Check.outcome(() -> x.append(128)), "IllegalArgumentException");
        Texts.same("both: the value is listed first", Check.outcome(() -> x.append(-1)), "IllegalArgumentException");
        Check.equal("the length", x.clearText(), 220);
        Check.equal("append to the empty text", x.append('0'), 1);
    }

    /** "Returns the new length": refused bytes do not count, and other calls leave it. */
    private static void lengthOfTheText() {
        SlabDunes x = new SlabDunes();
        Check.equal("append", x.append('1'), 1);
        Check.outcome(() -> x.append(128));
        Check.outcome(() -> x.append(-1));
        Check.equal("append after refused bytes", x.append('1'), 2);
        x.parse();
        x.begin(3, 3, 0);
        x.undo();
        Check.equal("append after other calls", x.append('1'), 3);
    }

    /** "Empties the field text. Returns the length that it had." 0 for the empty one, 220 for the full one. */
    private static void emptiedText() {
        SlabDunes x = new SlabDunes();
        Check.equal("clearText of the empty text", x.clearText(), 0);
        x.append('1');
        Check.equal("clearText of one byte", x.clearText(), 1);
        Check.equal("clearText again", x.clearText(), 0);
        Check.equal("parse of the emptied text", x.parse(), -10);
        Texts.append(x, "111/111/111");
        x.clearText();
        Texts.append(x, "222/222");
        Check.equal("nothing is left of the text before", x.parse(), -10 - 7);
    }

    /** "3 to 16" digits in a row, "3 to 12 rows": each size, and each height where it belongs. */
    private static void eachSize() {
        for (int rows = 3; rows <= 12; rows++) {
            for (int columns = 3; columns <= 16; columns++) {
                StringBuilder text = new StringBuilder();
                for (int cell = 0; cell < rows * columns; cell++) {
                    text.append(cell > 0 && cell % columns == 0 ? "/" : "").append((char) ('0' + (cell * 7 + cell / 10) % 10));
                }
                SlabDunes x = new SlabDunes();
                Check.equal("parse of " + text, Texts.parse(x, text.toString()), rows * columns);
                Check.equal("rows", x.value(4), rows);
                Check.equal("columns", x.value(5), columns);
                Texts.same("the heights", Texts.heights(x), text.toString());
            }
        }
    }

    /** "height digits 0 to 9" */
    private static void eachDigit() {
        SlabDunes x = new SlabDunes();
        Check.equal("parse", Texts.parse(x, "0123456789/9876543210/0000099999"), 30);
        for (int k = 0; k < 10; k++) {
            Check.equal("the digit " + k, x.cell(k, 0), k);
            Check.equal("the digit " + (9 - k), x.cell(10 + k, 0), 9 - k);
        }
    }

    /** Each row of the text is a row of the field, and each digit a column. */
    private static void rowsAndColumnsInOrder() {
        SlabDunes x = new SlabDunes();
        Check.equal("parse", Texts.parse(x, "1234/5678/9012"), 12);
        int[] due = {1, 2, 3, 4, 5, 6, 7, 8, 9, 0, 1, 2};
        for (int cell = 0; cell < 12; cell++) {
            Check.equal("the height of " + cell, x.cell(cell, 0), due[cell]);
        }
    }

    /** "or the length of the text if the text ends too early (also if it is empty, ..)" */
    private static void emptyText() {
        error("", 0);
    }

    /** "the length of the text if the text ends too early": each beginning of the least text, but the whole one. */
    private static void endsTooEarly() {
        String least = "123/456/789";
        for (int length = 0; length < 11; length++) {
            error(least.substring(0, length), length);
        }
        answers(least, 9);
        error("1234567", 7);
        error("1234/5678", 9);
        error("1234/5678/901", 13);
        error("1234/5678/9012/3", 16);
        error("1234/5678/9012/345", 18);
    }

    /** "(also if .. or ends behind a "/")": after 1 row to 11 rows. */
    private static void endsBehindASeparator() {
        for (int rows = 1; rows <= 11; rows++) {
            error(Texts.rows(rows, "111") + "/", 4 * rows);
            error(Texts.rows(rows, GREAT_ROW) + "/", 17 * rows);
        }
    }

    /** Each beginning of the greatest text ends too early, but those that end with the last digit of a row from the third. */
    private static void endsOfTheGreatestText() {
        String great = Texts.rows(12, GREAT_ROW);
        Check.equal("the length", great.length(), 203);
        for (int length = 0; length <= 203; length++) {
            boolean whole = length % 17 == 16 && length >= 50;
            answers(great.substring(0, length), whole ? (length + 1) / 17 * 16 : -10 - length);
        }
    }

    /** "(a "/" where a row is too short, ..)": a row has at least 3 digits. */
    private static void separatorWhereTheFirstRowIsTooShort() {
        error("/", 0);
        error("/111/111/111", 0);
        error("1/111/111/111", 1);
        error("1/1/1", 1);
        error("11/111/111", 2);
        error("11/11/11", 2);
        answers("111/111/111", 9);
    }

    /** "(a "/" where a row is too short, ..)": each row has as many digits as the first one. */
    private static void separatorWhereAnotherRowIsTooShort() {
        error("111//111/111", 4);
        error("111/1/111", 5);
        error("111/11/111", 6);
        error("1111/111/1111", 8);
        error("1111/1111/111/", 13);
        error("111/111/111/11/111", 14);
        for (int digits = 0; digits < 16; digits++) {
            error(GREAT_ROW + "/" + GREAT_ROW.substring(0, digits) + "/" + GREAT_ROW, 17 + digits);
        }
        error(Texts.rows(11, "111") + "/11/", 46);
    }

    /** "a digit where it is too long": a row has at most 16 digits. */
    private static void digitWhereTheFirstRowIsTooLong() {
        answers(Texts.rows(3, GREAT_ROW), 48);
        error(GREAT_ROW + "7", 16);
        error(Texts.rows(3, GREAT_ROW + "7"), 16);
        error(GREAT_ROW + "78", 16);
    }

    /** "a digit where it is too long": each row has as many digits as the first one. */
    private static void digitWhereAnotherRowIsTooLong() {
        error("111/1111/111", 7);
        error("111/1111", 7);
        error("111/111/1111", 11);
        error("1111/11111/1111", 9);
        error(Texts.rows(12, "111") + "1", 47);
        error(Texts.rows(12, GREAT_ROW) + "7", 203);
        error(GREAT_ROW + "/" + GREAT_ROW + "7", 33);
    }

    /** "(.. the "/" behind a twelfth row, too)" */
    private static void separatorBehindTheTwelfthRow() {
        answers(Texts.rows(12, "111"), 36);
        error(Texts.rows(12, "111") + "/", 47);
        error(Texts.rows(13, "111"), 47);
        answers(Texts.rows(12, GREAT_ROW), 192);
        error(Texts.rows(12, GREAT_ROW) + "/", 203);
        error(Texts.rows(12, GREAT_ROW) + "/" + GREAT_ROW, 203);
        answers(Texts.rows(11, "111"), 33);
        error(Texts.rows(11, "111") + "/", 44);
    }

    /** A twelfth row that is too short, and then a "/" or the end. */
    private static void textBehindTheTwelfthRow() {
        error(Texts.rows(11, "111") + "/1", 45);
        error(Texts.rows(11, "111") + "/11", 46);
        error(Texts.rows(11, "111") + "/11/1", 46);
        error(Texts.rows(12, "111") + "a", 47);
    }

    /** "the first byte that cannot stand where it stands": all that is no digit and no "/", at each position. */
    private static void bytesThatStandNowhere() {
        String least = "123/456/789";
        for (int value = 0; value <= 127; value++) {
            boolean stands = value >= '/' && value <= '9';
            if (!stands) {
                error((char) value + least, 0);
                error("123" + (char) value + "456/789", 3);
                error(least + (char) value, 11);
            }
        }
        for (int position = 0; position <= 11; position++) {
            for (char sign : new char[] {0, '.', ':', ' ', '-', 'a', 127}) {
                error(least.substring(0, position) + sign + least.substring(position), position);
            }
        }
    }

    /** "the index of the first byte": what stands behind it does not matter. */
    private static void firstErrorOfSeveral() {
        error("a/a", 0);
        error("1a/", 1);
        error("11/a", 2);
        error("111/a/1111", 4);
        error("111/1111/11/", 7);
        error(Texts.rows(12, "111") + "/a", 47);
    }

    /** A text of 220 bytes is read like any other. */
    private static void longestText() {
        StringBuilder digits = new StringBuilder();
        for (int k = 0; k < 220; k++) {
            digits.append(k % 10);
        }
        error(digits.toString(), 16);
        error(digits.toString().replace('6', '/'), 13);
        error(Texts.rows(12, GREAT_ROW) + digits.substring(0, 17), 203);
        error(Texts.rows(55, "111") + "/", 47);
    }

    /** "(then nothing changes)": neither the field nor the saved states. */
    private static void errorChangesNothing() {
        String untouched = Whole.of(Busy.small());
        SlabDunes x = Busy.small();
        Check.equal("the text ends too early", x.parse(), -20);
        Texts.same("the object after it", Whole.of(x), untouched);
        SlabDunes y = new SlabDunes();
        Check.equal("the empty text", y.parse(), -10);
        Texts.same("it is not undoable then", Check.outcome(() -> y.undo()), "IllegalStateException");
    }

    /** "The text stays as it is. Undoable": each time, even if the call changes nothing. */
    private static void parseAgain() {
        SlabDunes x = new SlabDunes();
        Texts.append(x, "123/456/789");
        for (int k = 0; k < 6; k++) {
            Check.equal("parse", x.parse(), 9);
        }
        for (int left = 3; left >= 0; left--) {
            Check.equal("undo", x.undo(), left);
            Texts.same("the field of the text", Texts.heights(x), "123/456/789");
        }
        Texts.same("a fifth undo", Check.outcome(() -> x.undo()), "IllegalStateException");
        Check.equal("the text stays", x.parse(), 9);
    }

    /** After an error, and after a field was read, the text goes on where it was. */
    private static void parseTakesTheTextAsItIs() {
        SlabDunes x = new SlabDunes();
        Texts.append(x, "1234/5678/9012");
        Check.equal("three rows", x.parse(), 12);
        x.append('/');
        Check.equal("a \"/\" behind them", x.parse(), -10 - 15);
        Check.equal("the field stays", x.value(4), 3);
        Texts.append(x, "3456");
        Check.equal("four rows", x.parse(), 16);
        Texts.same("its heights", Texts.heights(x), "1234/5678/9012/3456");
        Texts.append(x, "7");
        Check.equal("a digit too many", x.parse(), -10 - 19);
        x.clearText();
        Texts.append(x, "111/222/333");
        Check.equal("a smaller field", x.parse(), 9);
        Texts.same("its heights", Texts.heights(x), "111/222/333");
    }

    /** "nothing slides": heights of 9 beside those of 0. */
    private static void nothingSlides() {
        SlabDunes x = new SlabDunes();
        x.set(3, 1);
        Check.equal("parse", Texts.parse(x, "090/909/090"), 9);
        Texts.same("the heights", Texts.heights(x), "090/909/090");
        Check.equal("slides", x.count(9), 0);
        Check.equal("steps", x.count(0), 0);
    }

    /** "otherwise as by begin()": no tufts, no fences, no counts, no latest step, no seasons; it counts from these heights. */
    private static void parseBeginsAnew() {
        SlabDunes x = Busy.small();
        Check.that("seasons", x.value(8) > 0);
        x.append('9');
        Check.equal("parse", x.parse(), 9);
        Check.equal("seasons", x.value(8), 0);
        for (int cell = 0; cell < 9; cell++) {
            int[] due = {cell + 1, 0, SlabDunes.NONE, SlabDunes.NONE};
            for (int what = 0; what < 4; what++) {
                Check.equal("cell(" + cell + ", " + what + ")", x.cell(cell, what), due[what]);
            }
            Check.equal("growth", x.cell(cell, 5), 0);
        }
        for (int what = 0; what < 12; what++) {
            Check.equal("count(" + what + ")", x.count(what), 0);
        }
        Texts.same("the latest step", Texts.latest(x), "-1 -1 -1 -1");
    }

    /** "The saved state contains everything except the field text": append, clearText and parse leave it to undo so. */
    private static void textIsNotSaved() {
        SlabDunes x = new SlabDunes();
        x.setHeight(0, 9);
        Texts.append(x, "123/456/789");
        Check.equal("undo of what was before the text", x.undo(), 0);
        Check.equal("parse after it", x.parse(), 9);
        x.clearText();
        Check.equal("undo of parse", x.undo(), 0);
        Check.equal("the text is empty still", x.parse(), -10);
        Texts.same("append and clearText are not undoable", Check.outcome(() -> x.undo()), "IllegalStateException");
    }
}
