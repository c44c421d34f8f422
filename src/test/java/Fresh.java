/**
 * An object answers at most 512 calls as promised. Whoever asks more than that asks here: after some questions it goes
 * on with a new object that was made in the same way. Only for questions, which change nothing.
 */
final class Fresh {
    private static final int QUESTIONS = 100;

    interface Maker {
        SlabDunes make();
    }

    private final Maker maker;
    private SlabDunes object;
    private int left = 0;

    Fresh(Maker maker) {
        this.maker = maker;
    }

    SlabDunes object() {
        if (left == 0) {
            object = maker.make();
            left = QUESTIONS;
        }
        left--;
        return object;
    }

    /** The hash of the document, from the answers of the face; the text's length and the saved states are told. */
    long hash(int length, int saved) {
        long h = 31L * 3301L + length;
        for (int what = 0; what <= 8; what++) {
            h = 31 * h + object().value(what);
        }
        int cells = object().value(4) * object().value(5);
        for (int cell = 0; cell < cells; cell++) {
            for (int what = 0; what <= 5; what++) {
                h = 31 * h + object().cell(cell, what);
            }
        }
        for (int what = 0; what <= 11; what++) {
            h = 31 * h + object().count(what);
        }
        for (int what = 0; what <= 3; what++) {
            h = 31 * h + object().latest(what);
        }
        for (int threshold = 1; threshold <= 5; threshold++) {
            h = 31 * h + object().dunes(threshold);
        }
        return 31 * h + saved;
    }
}
