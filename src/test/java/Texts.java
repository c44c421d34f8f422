/** Field texts and field pictures for the tests. */
final class Texts {
    private Texts() {
    }

    static void append(SlabDunes x, String text) {
        for (int k = 0; k < text.length(); k++) {
            x.append(text.charAt(k));
        }
    }

    /** What parse() answers for this text. */
    static int parse(SlabDunes x, String text) {
        x.clearText();
        append(x, text);
        return x.parse();
    }

    /** A new object with the heights of the text. */
    static SlabDunes field(String text) {
        SlabDunes x = new SlabDunes();
        if (parse(x, text) < 0) {
            throw new IllegalStateException("not a field: " + text);
        }
        return x;
    }

    /** So many rows, all like this one. */
    static String rows(int rows, String row) {
        StringBuilder text = new StringBuilder(row);
        for (int k = 1; k < rows; k++) {
            text.append('/').append(row);
        }
        return text.toString();
    }

    /** The heights as a field text; a height above 9 in brackets. */
    static String heights(SlabDunes x) {
        StringBuilder text = new StringBuilder();
        int columns = x.value(5);
        int cells = x.value(4) * columns;
        for (int cell = 0; cell < cells; cell++) {
            if (cell > 0 && cell % columns == 0) {
                text.append('/');
            }
            int height = x.cell(cell, 0);
            text.append(height > 9 ? "[" + height + "]" : Integer.toString(height));
        }
        return text.toString();
    }

    static void same(String what, String got, String due) {
        Check.that(what + " is " + got + ", due is " + due, got.equals(due));
    }

    static String latest(SlabDunes x) {
        return x.latest(0) + " " + x.latest(1) + " " + x.latest(2) + " " + x.latest(3);
    }
}
