import java.util.ArrayDeque;
import java.util.ArrayList;
import java.util.Deque;
import java.util.HashSet;
import java.util.List;
import java.util.Set;

/** The document once more, word by word and with the whole Java library: what SlabDunes is compared with. */
final class PlainDunes {
    private static final int[] ROW_STEP = {0, 1, 0, -1};
    private static final int[] COLUMN_STEP = {1, 0, -1, 0};

    private static final class Cell {
        int height;
        int tuft;
        int before;
        boolean fence;
        int capacity;
        int trapped;

        Cell(int height) {
            this.height = height;
            before = height;
        }

        Cell copy() {
            Cell c = new Cell(height);
            c.tuft = tuft;
            c.before = before;
            c.fence = fence;
            c.capacity = capacity;
            c.trapped = trapped;
            return c;
        }
    }

    private static final class State {
        Cell[][] cells;
        int[] settings = {3, 60, 40, 2};
        int direction;
        long s = 1;
        int seasons;
        int[] counts = new int[12];
        int[] latest;

        State copy() {
            State c = new State();
            c.cells = new Cell[cells.length][cells[0].length];
            for (int r = 0; r < cells.length; r++) {
                for (int k = 0; k < cells[0].length; k++) {
                    c.cells[r][k] = cells[r][k].copy();
                }
            }
            c.settings = settings.clone();
            c.direction = direction;
            c.s = s;
            c.seasons = seasons;
            c.counts = counts.clone();
            c.latest = latest == null ? null : latest.clone();
            return c;
        }

        int h() {
            return cells.length;
        }

        int w() {
            return cells[0].length;
        }

        int all() {
            return h() * w();
        }

        Cell at(int row, int column) {
            return cells[Math.floorMod(row, h())][Math.floorMod(column, w())];
        }

        Cell at(int number) {
            return cells[number / w()][number % w()];
        }

        int draw(int n) {
            s = (1103515245L * s + 12345L) % 2147483648L;
            return (int) ((s / 65536) % n);
        }

        boolean shaded(int number) {
            int r = number / w();
            int c = number % w();
            int line = direction == 0 || direction == 2 ? w() : h();
            for (int d = 1; d <= line - 1; d++) {
                int u = at(r - d * ROW_STEP[direction], c - d * COLUMN_STEP[direction]).height;
                if ((u - at(number).height) * 5 > 4 * d) {
                    return true;
                }
            }
            return false;
        }

        int[] neighbors(int number) {
            int r = number / w();
            int c = number % w();
            return new int[] {
                Math.floorMod(r - 1, h()) * w() + c,
                r * w() + Math.floorMod(c + 1, w()),
                Math.floorMod(r + 1, h()) * w() + c,
                r * w() + Math.floorMod(c - 1, w()),
            };
        }

        void hasGot(int number) {
            int best = -1;
            for (int n : neighbors(number)) {
                if (at(number).height - at(n).height > settings[3] && (best < 0 || at(n).height < at(best).height)) {
                    best = n;
                }
            }
            if (best >= 0) {
                at(number).height--;
                at(best).height++;
                counts[9]++;
                hasGot(best);
            }
        }

        void hasLost(int number) {
            int best = -1;
            for (int n : neighbors(number)) {
                if (at(n).height - at(number).height > settings[3] && (best < 0 || at(n).height > at(best).height)) {
                    best = n;
                }
            }
            if (best >= 0) {
                at(best).height--;
                at(number).height++;
                counts[9]++;
                hasLost(best);
            }
        }

        boolean step() {
            int drawn = draw(all());
            Cell cell = at(drawn);
            int reason = 0;
            if (cell.height == 0) {
                reason = 1;
            } else if (cell.fence) {
                reason = 2;
            } else if (shaded(drawn)) {
                reason = 3;
            } else if (draw(100) < cell.tuft) {
                reason = 4;
            }
            counts[0]++;
            if (reason > 0) {
                counts[reason]++;
                latest = new int[] {reason, drawn, -1, 0};
                return false;
            }
            cell.height--;
            hasLost(drawn);
            latest = fly(drawn);
            counts[latest[0]]++;
            at(latest[2]).height++;
            hasGot(latest[2]);
            return true;
        }

        private int[] fly(int drawn) {
            int r = drawn / w();
            int c = drawn % w();
            for (int hop = 1;; hop++) {
                for (int k = 0; k < settings[0]; k++) {
                    r = Math.floorMod(r + ROW_STEP[direction], h());
                    c += COLUMN_STEP[direction];
                    if (c == w()) {
                        c = 0;
                        counts[10]++;
                    }
                    if (c < 0) {
                        c = w() - 1;
                        counts[11]++;
                    }
                    Cell here = at(r, c);
                    if (here.fence && here.trapped < here.capacity) {
                        here.trapped++;
                        return new int[] {5, drawn, r * w() + c, hop};
                    }
                }
                int place = r * w() + c;
                if (shaded(place)) {
                    return new int[] {6, drawn, place, hop};
                }
                int chance = at(place).height == 0 ? settings[2] : settings[1];
                if (draw(100) < chance + at(place).tuft) {
                    return new int[] {7, drawn, place, hop};
                }
                if (hop == 12) {
                    return new int[] {8, drawn, place, hop};
                }
            }
        }

        int steps(int n) {
            int lifted = 0;
            for (int k = 0; k < n; k++) {
                lifted += step() ? 1 : 0;
            }
            return lifted;
        }

        List<Set<Integer>> dunes(int threshold) {
            List<Set<Integer>> dunes = new ArrayList<>();
            Set<Integer> seen = new HashSet<>();
            for (int number = 0; number < all(); number++) {
                if (at(number).height >= threshold && !seen.contains(number)) {
                    Set<Integer> dune = new HashSet<>();
                    join(number, threshold, dune);
                    seen.addAll(dune);
                    dunes.add(dune);
                }
            }
            return dunes;
        }

        private void join(int number, int threshold, Set<Integer> dune) {
            if (at(number).height >= threshold && dune.add(number)) {
                for (int n : neighbors(number)) {
                    join(n, threshold, dune);
                }
            }
        }
    }

    private State now = field(6, 10, 2);
    private final Deque<State> saved = new ArrayDeque<>();
    private String text = "";

    private static State field(int rows, int columns, int height) {
        State state = new State();
        state.cells = new Cell[rows][columns];
        for (Cell[] row : state.cells) {
            for (int c = 0; c < columns; c++) {
                row[c] = new Cell(height);
            }
        }
        return state;
    }

    private static void argument(int value, int least, int most) {
        if (value < least || value > most) {
            throw new IllegalArgumentException();
        }
    }

    private static void index(int value, int bound) {
        if (value < 0 || value >= bound) {
            throw new IndexOutOfBoundsException();
        }
    }

    private void save() {
        saved.addLast(now.copy());
        if (saved.size() > 4) {
            saved.removeFirst();
        }
    }

    int begin(int rows, int columns, int height) {
        argument(rows, 3, 12);
        argument(columns, 3, 16);
        argument(height, 0, 20);
        save();
        now = field(rows, columns, height);
        return now.all();
    }

    int setHeight(int cell, int height) {
        index(cell, now.all());
        argument(height, 0, 99);
        save();
        int previous = now.at(cell).height;
        now.at(cell).height = height;
        now.at(cell).before = height;
        return previous;
    }

    int setTuft(int cell, int tuft) {
        index(cell, now.all());
        argument(tuft, 0, 100);
        save();
        int previous = now.at(cell).tuft;
        now.at(cell).tuft = tuft;
        return previous;
    }

    int setFence(int cell, int capacity) {
        index(cell, now.all());
        argument(capacity == -1 ? 1 : capacity, 1, 50);
        save();
        Cell c = now.at(cell);
        int previous = c.fence ? c.trapped : -1;
        c.fence = capacity != -1;
        c.capacity = capacity;
        c.trapped = 0;
        return previous;
    }

    int set(int what, int value) {
        argument(what, 0, 3);
        argument(value, what == 0 || what == 3 ? 1 : 0, new int[] {8, 100, 100, 5}[what]);
        save();
        int previous = now.settings[what];
        now.settings[what] = value;
        return previous;
    }

    int setWind(int direction, int s) {
        argument(direction, 0, 3);
        argument(s, -1, 999999);
        save();
        int previous = now.direction;
        now.direction = direction;
        now.s = s == -1 ? now.s : s;
        return previous;
    }

    int run(int steps) {
        argument(steps, 0, 2000);
        save();
        return now.steps(steps);
    }

    int season() {
        save();
        int decreased = 0;
        for (int k = 0; k < now.all(); k++) {
            Cell c = now.at(k);
            int n = c.height - c.before;
            c.before = c.height;
            if (c.tuft > 0) {
                boolean less = n > 2 || n < -2;
                c.tuft = less ? Math.max(0, c.tuft - 30) : Math.min(100, c.tuft + 10);
                decreased += less ? 1 : 0;
            }
        }
        now.seasons++;
        return decreased;
    }

    int value(int what) {
        argument(what, 0, 8);
        int[] others = {now.h(), now.w(), now.direction, (int) now.s, now.seasons};
        return what < 4 ? now.settings[what] : others[what - 4];
    }

    int cell(int cell, int what) {
        index(cell, now.all());
        argument(what, 0, 5);
        Cell c = now.at(cell);
        int shade = now.shaded(cell) ? 1 : 0;
        return new int[] {c.height, c.tuft, c.fence ? c.capacity : -1, c.fence ? c.trapped : -1, shade,
            c.height - c.before}[what];
    }

    int count(int what) {
        argument(what, 0, 11);
        return now.counts[what];
    }

    int latest(int what) {
        argument(what, 0, 3);
        return now.latest == null ? -1 : now.latest[what];
    }

    int slabs() {
        int sum = 0;
        for (int k = 0; k < now.all(); k++) {
            sum += now.at(k).height;
        }
        return sum;
    }

    int relief(int what) {
        argument(what, 0, 3);
        int greatest = 0;
        int difference = 0;
        int bare = 0;
        for (int k = now.all() - 1; k >= 0; k--) {
            int height = now.at(k).height;
            greatest = Math.max(greatest, height);
            bare += height == 0 ? 1 : 0;
            for (int n : now.neighbors(k)) {
                difference = Math.max(difference, height - now.at(n).height);
            }
        }
        int cell = 0;
        while (now.at(cell).height != greatest) {
            cell++;
        }
        return new int[] {greatest, cell, difference, bare}[what];
    }

    double shadowHeight() {
        double sum = 0;
        double number = 0;
        for (int k = 0; k < now.all(); k++) {
            if (now.shaded(k)) {
                sum += now.at(k).height;
                number++;
            }
        }
        return number == 0 ? 0.0 : sum / number;
    }

    int dunes(int threshold) {
        argument(threshold, 1, 99);
        return now.dunes(threshold).size();
    }

    int greatestDune(int threshold) {
        argument(threshold, 1, 99);
        int greatest = 0;
        for (Set<Integer> dune : now.dunes(threshold)) {
            int sum = 0;
            for (int cell : dune) {
                sum += now.at(cell).height;
            }
            greatest = Math.max(greatest, sum);
        }
        return greatest;
    }

    int duneOf(int cell, int threshold) {
        index(cell, now.all());
        argument(threshold, 1, 99);
        for (Set<Integer> dune : now.dunes(threshold)) {
            if (dune.contains(cell)) {
                return dune.size();
            }
        }
        return 0;
    }

    int dunesAfter(int steps, int threshold) {
        argument(steps, 0, 1000);
        argument(threshold, 1, 99);
        State trial = now.copy();
        trial.steps(steps);
        return trial.dunes(threshold).size();
    }

    int bestFence(int column, int steps) {
        index(column, now.w());
        argument(steps, 0, 500);
        int best = -1;
        int most = -1;
        for (int row = 0; row < now.h(); row++) {
            State trial = now.copy();
            Cell c = trial.at(row, column);
            if (!c.fence) {
                c.fence = true;
                c.capacity = 50;
                c.trapped = 0;
                trial.steps(steps);
                if (c.trapped > most) {
                    most = c.trapped;
                    best = row;
                }
            }
        }
        return best;
    }

    int liveliestWind(int steps) {
        argument(steps, 0, 500);
        int best = -1;
        int most = -1;
        for (int direction = 0; direction < 4; direction++) {
            State trial = now.copy();
            trial.direction = direction;
            int lifted = trial.steps(steps);
            if (lifted > most) {
                most = lifted;
                best = direction;
            }
        }
        return best;
    }

    int append(int value) {
        argument(value, 0, 127);
        if (text.length() == 220) {
            throw new IllegalStateException();
        }
        text += (char) value;
        return text.length();
    }

    int clearText() {
        int length = text.length();
        text = "";
        return length;
    }

    /** Whether the text could go on to a field text, or is one if it is whole. */
    private static boolean fits(String text, boolean whole) {
        String[] rows = text.split("/", -1);
        if (rows.length > 12 || whole && rows.length < 3) {
            return false;
        }
        for (int k = 0; k < rows.length; k++) {
            boolean last = k == rows.length - 1 && !whole;
            boolean digits = rows[k].matches("[0-9]{0,16}");
            boolean most = k == 0 || rows[k].length() <= rows[0].length();
            boolean least = last || rows[k].length() >= Math.max(3, rows[0].length());
            if (!digits || !most || !least) {
                return false;
            }
        }
        return true;
    }

    int parse() {
        for (int k = 1; k <= text.length(); k++) {
            if (!fits(text.substring(0, k), false)) {
                return -10 - (k - 1);
            }
        }
        if (!fits(text, true)) {
            return -10 - text.length();
        }
        save();
        String[] rows = text.split("/");
        State read = field(rows.length, rows[0].length(), 0);
        for (int k = 0; k < read.all(); k++) {
            int height = rows[k / read.w()].charAt(k % read.w()) - '0';
            read.at(k).height = height;
            read.at(k).before = height;
        }
        read.settings = now.settings;
        read.direction = now.direction;
        read.s = now.s;
        now = read;
        return now.all();
    }

    int undo() {
        if (saved.isEmpty()) {
            throw new IllegalStateException();
        }
        now = saved.removeLast();
        return saved.size();
    }

    long digest() {
        List<Long> values = new ArrayList<>();
        values.add((long) text.length());
        for (int what = 0; what <= 8; what++) {
            values.add((long) value(what));
        }
        for (int k = 0; k < now.all(); k++) {
            for (int what = 0; what <= 5; what++) {
                values.add((long) cell(k, what));
            }
        }
        for (int what = 0; what <= 11; what++) {
            values.add((long) count(what));
        }
        for (int what = 0; what <= 3; what++) {
            values.add((long) latest(what));
        }
        for (int threshold = 1; threshold <= 5; threshold++) {
            values.add((long) dunes(threshold));
        }
        values.add((long) saved.size());
        long h = 3301;
        for (long v : values) {
            h = 31 * h + v;
        }
        return h;
    }
}
