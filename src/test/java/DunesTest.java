/** Promises 17 to 19: dunes, greatestDune, duneOf. */
public final class DunesTest {
    public static void main(String[] args) {
        promise17Dunes();
        promise17ToTheLastCell();
        promise18GreatestDune();
        promise19DuneOf();
        promise19DuneOfRefuses();
        Check.end("DunesTest");
    }

    private static void dunes(String text, int threshold, int number, int greatest) {
        SlabDunes x = Texts.field(text);
        long before = x.digest();
        Check.equal(text + ": greatestDune(" + threshold + ")", x.greatestDune(threshold), greatest);
        Check.equal(text + ": dunes(" + threshold + ")", x.dunes(threshold), number);
        Check.equal(text + ": nothing changes", x.digest(), before);
    }

    private static void promise17Dunes() {
        dunes("0000/0000/0000", 1, 0, 0);
        dunes("1111/1111/1111", 1, 1, 12);
        dunes("1111/1111/1111", 2, 0, 0);
        dunes("00000/01010/00000/01010/00000", 1, 4, 1);
        dunes("00000/01100/00110/00000", 1, 1, 4);
        dunes("00000/01000/00100/00000", 1, 2, 1);
        dunes("10001/00000/00000", 1, 1, 2);
        dunes("10000/00000/10000", 1, 1, 2);
        dunes("10000/00000/00001", 1, 2, 1);
        dunes("50000/03000/00000/00400", 3, 3, 5);
        dunes("50000/03000/00000/00400", 4, 2, 5);
        dunes("50000/03000/00000/00400", 5, 1, 5);
        dunes("000000/033030/009000/000000", 3, 2, 15);
        SlabDunes x = new SlabDunes();
        Check.refusesArgument(x, "dunes(0)", () -> x.dunes(0));
        Check.refusesArgument(x, "dunes(100)", () -> x.dunes(100));
        Check.equal("dunes(99)", x.dunes(99), 0);
        x.setHeight(5, 99);
        Check.equal("dunes(99)", x.dunes(99), 1);
    }

    private static void promise17ToTheLastCell() {
        SlabDunes x = new SlabDunes();
        x.begin(12, 16, 20);
        Check.equal("the whole field", x.dunes(20), 1);
        x.begin(3, 3, 20);
        Check.equal("nothing is left of a greater field", x.dunes(20), 1);
        Check.equal("its slabs", x.greatestDune(20), 180);
        x.undo();
        Check.equal("its slabs", x.greatestDune(20), 3840);
        Check.equal("its cells", x.duneOf(191, 20), 192);
        StringBuilder text = new StringBuilder();
        for (int row = 0; row < 12; row++) {
            text.append(row > 0 ? "/" : "").append(row % 2 == 0 ? "9090909090909090" : "0909090909090909");
        }
        SlabDunes y = Texts.field(text.toString());
        Check.equal("96 dunes", y.dunes(9), 96);
        Check.equal("a cell each", y.duneOf(190, 9), 0);
        Check.equal("a cell each", y.duneOf(191, 9), 1);
    }

    private static void promise18GreatestDune() {
        dunes("00000/09010/00011/00010/00000", 1, 2, 9);
        dunes("00000/02010/00011/00010/00000", 1, 2, 4);
        dunes("90000/02010/00011/00010/00000", 2, 2, 9);
        SlabDunes x = new SlabDunes();
        Check.refusesArgument(x, "greatestDune(0)", () -> x.greatestDune(0));
        Check.refusesArgument(x, "greatestDune(100)", () -> x.greatestDune(100));
        Check.refusesArgument(x, "greatestDune(-1)", () -> x.greatestDune(-1));
    }

    private static void promise19DuneOf() {
        SlabDunes x = Texts.field("00000/02010/00011/00010/00001");
        Check.equal("a dune of one cell", x.duneOf(6, 1), 1);
        Check.equal("a dune of four cells", x.duneOf(8, 1), 4);
        Check.equal("the same dune", x.duneOf(14, 1), 4);
        Check.equal("diagonally there is no connection", x.duneOf(24, 1), 1);
        Check.equal("no dune", x.duneOf(0, 1), 0);
        Check.equal("too low", x.duneOf(8, 2), 0);
        Check.equal("high enough", x.duneOf(6, 2), 1);
        SlabDunes y = Texts.field("10001/00000/00000/10000");
        Check.equal("a dune round the corner", y.duneOf(0, 1), 3);
        Check.equal("a dune round the corner", y.duneOf(15, 1), 3);
    }

    private static void promise19DuneOfRefuses() {
        SlabDunes x = new SlabDunes();
        Check.refusesIndex(x, "duneOf(60, 1)", () -> x.duneOf(60, 1));
        Check.refusesIndex(x, "duneOf(-1, 0)", () -> x.duneOf(-1, 0));
        Check.refusesArgument(x, "duneOf(0, 0)", () -> x.duneOf(0, 0));
        Check.refusesArgument(x, "duneOf(59, 100)", () -> x.duneOf(59, 100));
    }
}
