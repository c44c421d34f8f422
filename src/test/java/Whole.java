/**
 * All that can be learned from an object by using it up: its answers, each saved state, and what stands in its text.
 * Two objects with the same whole have the same state. It takes some 30 calls, and 6 more for each cell of a field
 * with few cells.
 */
final class Whole {
    private static final int FEW_CELLS = 20;

    private Whole() {
    }

    static String of(SlabDunes x) {
        StringBuilder told = new StringBuilder();
        answers(x, told);
        for (int k = 0; k < 5; k++) {
            told.append("\nundo ").append(Check.outcome(() -> x.undo())).append(", digest ").append(x.digest());
        }
        text(x, told);
        return told.toString();
    }

    private static void answers(SlabDunes x, StringBuilder told) {
        told.append("digest ").append(x.digest()).append("\nvalues");
        for (int what = 0; what <= 8; what++) {
            told.append(' ').append(x.value(what));
        }
        int cells = x.value(4) * x.value(5);
        for (int cell = 0; cell < cells && cells <= FEW_CELLS; cell++) {
            told.append("\ncell ").append(cell);
            for (int what = 0; what <= 5; what++) {
                told.append(' ').append(x.cell(cell, what));
            }
        }
        told.append("\ncounts");
        for (int what = 0; what <= 11; what++) {
            told.append(' ').append(x.count(what));
        }
        told.append("\nlatest ").append(Texts.latest(x));
    }

    // A text that is no field's may become one by a digit more.
    private static void text(SlabDunes x, StringBuilder told) {
        told.append("\nparse ").append(x.parse()).append(", digest ").append(x.digest());
        told.append("\nappend ").append(Check.outcome(() -> x.append('9')));
        told.append("\nparse ").append(x.parse()).append(", digest ").append(x.digest());
        told.append("\nclear ").append(x.clearText());
    }
}
