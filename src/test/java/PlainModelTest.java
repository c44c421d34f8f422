/** All promises: runs of 512 calls, made by a fixed rule, are answered by SlabDunes as by PlainDunes. */
public final class PlainModelTest {
    private static final int RUNS = 150;
    private static final int CALLS = 512;
    private static final String[] ROWS = {"123", "9990", "00500", "1234567890123456", "22222222"};

    private final SlabDunes x = new SlabDunes();
    private final PlainDunes p = new PlainDunes();
    private final Chance chance;
    private final int run;
    private int calls = 0;

    private PlainModelTest(int run) {
        this.run = run;
        chance = new Chance(run * 7919 + 17);
    }

    public static void main(String[] args) {
        for (int run = 0; run < RUNS; run++) {
            new PlainModelTest(run).compare();
        }
        Check.end("PlainModelTest");
    }

    private void compare() {
        for (int round = 1; round <= CALLS && calls < CALLS; round++) {
            if (round % 64 == 63) {
                fieldText();
            } else {
                call(chance.draw(10) < 4 ? 6 : chance.draw(26));
            }
            if (round % 16 == 0) {
                same("digest()", () -> x.digest(), () -> p.digest());
            }
        }
    }

    private void same(String what, Check.Call got, Check.Call due) {
        if (calls >= CALLS) {
            return;
        }
        calls++;
        String g = Check.outcome(got);
        String d = Check.outcome(due);
        Check.that("run " + run + ", call " + calls + ", " + what + " answered " + g + ", due is " + d, g.equals(d));
    }

    /** A number in the range, now and then just outside it. */
    private int number(int least, int most) {
        int roll = chance.draw(60);
        return roll == 0 ? least - 1 : roll == 1 ? most + 1 : roll == 2 ? least : roll == 3 ? most
            : least + chance.draw(most - least + 1);
    }

    private int cellNumber() {
        return number(0, p.value(4) * p.value(5) - 1);
    }

    private int few(int most) {
        return chance.draw(8) == 0 ? number(0, most) : chance.draw(40);
    }

    private void call(int kind) {
        switch (kind) {
            case 0: {
                int a = number(3, 12);
                int b = number(3, 16);
                int c = chance.draw(3) == 0 ? number(0, 20) : chance.draw(4);
                if (chance.draw(3) == 0) {
                    same("begin(" + a + ", " + b + ", " + c + ")", () -> x.begin(a, b, c), () -> p.begin(a, b, c));
                }
                break;
            }
            case 1: {
                int a = cellNumber();
                int b = chance.draw(3) == 0 ? number(0, 99) : chance.draw(8);
                same("setHeight(" + a + ", " + b + ")", () -> x.setHeight(a, b), () -> p.setHeight(a, b));
                break;
            }
            case 2: {
                int a = cellNumber();
                int b = number(0, 100);
                same("setTuft(" + a + ", " + b + ")", () -> x.setTuft(a, b), () -> p.setTuft(a, b));
                break;
            }
            case 3: {
                int a = cellNumber();
                int b = chance.draw(3) == 0 ? number(1, 50) : chance.draw(4) - 1;
                same("setFence(" + a + ", " + b + ")", () -> x.setFence(a, b), () -> p.setFence(a, b));
                break;
            }
            case 4: {
                int a = number(0, 3);
                int b = chance.draw(3) == 0 ? number(0, 100) : chance.draw(7);
                same("set(" + a + ", " + b + ")", () -> x.set(a, b), () -> p.set(a, b));
                break;
            }
            case 5: {
                int a = number(0, 3);
                int b = chance.draw(2) == 0 ? -1 : number(-1, 32000) * 31;
                same("setWind(" + a + ", " + b + ")", () -> x.setWind(a, b), () -> p.setWind(a, b));
                break;
            }
            case 6: {
                int a = few(2000);
                same("run(" + a + ")", () -> x.run(a), () -> p.run(a));
                break;
            }
            case 7:
                same("season()", () -> x.season(), () -> p.season());
                break;
            default:
                if (kind < 17) {
                    ask(kind);
                } else {
                    other(kind);
                }
                break;
        }
    }

    private void ask(int kind) {
        int what = number(0, 11);
        int cell = cellNumber();
        int threshold = chance.draw(4) == 0 ? number(1, 99) : 1 + chance.draw(6);
        switch (kind) {
            case 8:
                same("value(" + what + ")", () -> x.value(what), () -> p.value(what));
                break;
            case 9:
                same("cell(" + cell + ", " + what + ")", () -> x.cell(cell, what), () -> p.cell(cell, what));
                break;
            case 10:
                same("count(" + what + ")", () -> x.count(what), () -> p.count(what));
                break;
            case 11:
                same("latest(" + what % 5 + ")", () -> x.latest(what % 5), () -> p.latest(what % 5));
                break;
            case 12:
                same("slabs()", () -> x.slabs(), () -> p.slabs());
                break;
            case 13:
                same("relief(" + what % 5 + ")", () -> x.relief(what % 5), () -> p.relief(what % 5));
                break;
            case 14:
                same("shadowHeight()", () -> Double.doubleToLongBits(x.shadowHeight()),
                    () -> Double.doubleToLongBits(p.shadowHeight()));
                break;
            case 15:
                same("dunes(" + threshold + ")", () -> x.dunes(threshold), () -> p.dunes(threshold));
                break;
            default:
                same("greatestDune(" + threshold + ")", () -> x.greatestDune(threshold),
                    () -> p.greatestDune(threshold));
                break;
        }
    }

    private void other(int kind) {
        int threshold = chance.draw(4) == 0 ? number(1, 99) : 1 + chance.draw(6);
        int steps = few(500);
        switch (kind) {
            case 17: {
                int cell = cellNumber();
                same("duneOf(" + cell + ", " + threshold + ")", () -> x.duneOf(cell, threshold),
                    () -> p.duneOf(cell, threshold));
                break;
            }
            case 18:
                same("dunesAfter(" + steps + ", " + threshold + ")", () -> x.dunesAfter(steps, threshold),
                    () -> p.dunesAfter(steps, threshold));
                break;
            case 19: {
                int column = number(0, p.value(5) - 1);
                same("bestFence(" + column + ", " + steps + ")", () -> x.bestFence(column, steps),
                    () -> p.bestFence(column, steps));
                break;
            }
            case 20:
                same("liveliestWind(" + steps + ")", () -> x.liveliestWind(steps), () -> p.liveliestWind(steps));
                break;
            case 21: {
                int value = number(0, 127);
                same("append(" + value + ")", () -> x.append(value), () -> p.append(value));
                break;
            }
            case 22:
                same("clearText()", () -> x.clearText(), () -> p.clearText());
                break;
            case 23:
                same("parse()", () -> x.parse(), () -> p.parse());
                break;
            default:
                same("undo()", () -> x.undo(), () -> p.undo());
                break;
        }
    }

    /** A text that is a field's or nearly so. */
    private void fieldText() {
        String row = ROWS[chance.draw(ROWS.length)];
        int rows = 2 + chance.draw(12);
        StringBuilder text = new StringBuilder(row);
        for (int k = 1; k < rows; k++) {
            text.append('/').append(row);
        }
        if (chance.draw(2) == 0) {
            text.setCharAt(chance.draw(text.length()), "0/:x9".charAt(chance.draw(5)));
        }
        if (chance.draw(4) == 0) {
            text.setLength(chance.draw(text.length()));
        }
        same("clearText()", () -> x.clearText(), () -> p.clearText());
        for (int k = 0; k < text.length() && k < 220; k++) {
            char sign = text.charAt(k);
            same("append(" + (int) sign + ")", () -> x.append(sign), () -> p.append(sign));
        }
        same("parse() of " + text, () -> x.parse(), () -> p.parse());
    }
}
