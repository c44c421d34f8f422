/** Promises 26 and 27: undo and digest. */
public final class StateTest {
    public static void main(String[] args) {
        promise26Undo();
        promise26OldestIsDropped();
        promise26WhatIsUndoable();
        promise26WhatIsNotUndoable();
        promise27Digest();
        promise27DigestSeesEachValue();
        Check.end("StateTest");
    }

    private static void promise26Undo() {
        SlabDunes x = new SlabDunes();
        long first = x.digest();
        x.setHeight(3, 9);
        long second = x.digest();
        x.run(50);
        Check.equal("undo", x.undo(), 1);
        Check.equal("the state before run", x.digest(), second);
        Check.equal("undo", x.undo(), 0);
        Check.equal("the first state", x.digest(), first);
        Check.refuses(x, "undo without a saved state", IllegalStateException.class, () -> x.undo());
        x.setTuft(0, 5);
        x.undo();
        x.setTuft(0, 6);
        Check.equal("undo after undo", x.undo(), 0);
        Check.equal("the first state", x.digest(), first);
    }

    private static void promise26OldestIsDropped() {
        SlabDunes x = new SlabDunes();
        for (int height = 10; height < 20; height++) {
            x.setHeight(0, height);
        }
        for (int left = 3; left >= 0; left--) {
            Check.equal("undo", x.undo(), left);
            Check.equal("the height", x.cell(0, 0), 15 + left);
        }
        Check.refuses(x, "a fifth undo", IllegalStateException.class, () -> x.undo());
        for (int height = 20; height < 23; height++) {
            x.setHeight(0, height);
        }
        x.undo();
        x.setHeight(0, 30);
        x.setHeight(0, 31);
        x.setHeight(0, 32);
        int[] due = {31, 30, 21, 20};
        for (int k = 0; k < due.length; k++) {
            Check.equal("undo", x.undo(), 3 - k);
            Check.equal("the height", x.cell(0, 0), due[k]);
        }
    }

    private static void saves(SlabDunes x, String what, Check.Call call) {
        long before = x.digest();
        call.answer();
        Check.equal(what + " saves one state", x.undo(), 0);
        Check.equal(what + " is undone", x.digest(), before);
    }

    private static void promise26WhatIsUndoable() {
        SlabDunes x = new SlabDunes();
        Texts.append(x, "345/345/345");
        saves(x, "begin", () -> x.begin(12, 16, 5));
        saves(x, "begin that changes nothing", () -> x.begin(6, 10, 2));
        saves(x, "setHeight", () -> x.setHeight(1, 50));
        saves(x, "setHeight that changes nothing", () -> x.setHeight(1, 2));
        saves(x, "setTuft", () -> x.setTuft(1, 50));
        saves(x, "setTuft that changes nothing", () -> x.setTuft(1, 0));
        saves(x, "setFence", () -> x.setFence(1, 50));
        saves(x, "setFence that changes nothing", () -> x.setFence(1, SlabDunes.NONE));
        saves(x, "set", () -> x.set(3, 5));
        saves(x, "set that changes nothing", () -> x.set(3, 2));
        saves(x, "setWind", () -> x.setWind(3, 44));
        saves(x, "setWind that changes nothing", () -> x.setWind(0, SlabDunes.NONE));
        saves(x, "run", () -> x.run(300));
        saves(x, "run that changes nothing", () -> x.run(0));
        saves(x, "season", () -> x.season());
        saves(x, "parse", () -> x.parse());
    }

    private static void promise26WhatIsNotUndoable() {
        SlabDunes x = new SlabDunes();
        x.append('1');
        x.parse();
        x.clearText();
        x.value(0);
        x.cell(0, 0);
        x.count(0);
        x.latest(0);
        x.slabs();
        x.relief(0);
        x.shadowHeight();
        x.dunes(1);
        x.greatestDune(1);
        x.duneOf(0, 1);
        x.dunesAfter(10, 1);
        x.bestFence(0, 10);
        x.liveliestWind(10);
        x.digest();
        Check.refuses(x, "undo after calls that save nothing", IllegalStateException.class, () -> x.undo());
    }

    private static void digest(String what, Fresh.Maker maker, int length, int saved) {
        SlabDunes x = maker.make();
        long due = new Fresh(maker).hash(length, saved);
        Check.equal("digest of " + what, x.digest(), due);
        Check.equal("digest of " + what + " again: it changes nothing", x.digest(), due);
    }

    private static void promise27Digest() {
        digest("a new object", () -> new SlabDunes(), 0, 0);
        digest("an object with a text", () -> withText(), 1, 0);
        digest("a great field", () -> great(), 1, 4);
        digest("a great field after undo", () -> greatAfterUndo(), 1, 3);
    }

    private static SlabDunes withText() {
        SlabDunes x = new SlabDunes();
        x.append(9);
        return x;
    }

    private static SlabDunes great() {
        SlabDunes x = withText();
        x.begin(12, 16, 20);
        x.setTuft(191, 3);
        x.setFence(190, 4);
        x.setWind(3, 999999);
        x.run(2000);
        x.season();
        return x;
    }

    private static SlabDunes greatAfterUndo() {
        SlabDunes x = great();
        x.undo();
        return x;
    }

    private static void promise27DigestSeesEachValue() {
        for (int k = 0; k < 9; k++) {
            SlabDunes x = new SlabDunes();
            SlabDunes y = new SlabDunes();
            x.run(0);
            change(y, k);
            Check.that("the digest sees the change " + k, x.digest() != y.digest());
        }
    }

    private static void change(SlabDunes y, int k) {
        switch (k) {
            case 0: y.begin(6, 9, 2); break;
            case 1: y.setHeight(59, 1); break;
            case 2: y.setTuft(59, 1); break;
            case 3: y.setFence(59, 1); break;
            case 4: y.set(3, 1); break;
            case 5: y.setWind(1, SlabDunes.NONE); break;
            case 6: y.setWind(0, 2); break;
            case 7: y.run(1); break;
            default: y.season(); break;
        }
    }
}
