/** Objects with something of everything: tufts, fences, seasons, steps, a text, and four saved states. */
final class Busy {
    private Busy() {
    }

    /** A field of 12 cells, and a text to which the last digit is missing. */
    static SlabDunes small() {
        SlabDunes x = new SlabDunes();
        Texts.append(x, "123/456/78");
        x.begin(3, 4, 5);
        x.setTuft(7, 45);
        x.setFence(6, 9);
        x.set(0, 2);
        x.run(60);
        x.season();
        x.setWind(2, 4711);
        x.run(40);
        return x;
    }

    /** The greatest field, and a text of 220 bytes, of which the byte 203 is one too many. */
    static SlabDunes great() {
        SlabDunes x = new SlabDunes();
        Texts.append(x, Texts.rows(12, "1234567890123456"));
        for (int k = 203; k < 220; k++) {
            x.append('7');
        }
        x.begin(12, 16, 20);
        x.setTuft(191, 100);
        x.setFence(190, 50);
        x.run(500);
        x.season();
        return x;
    }
}
