/**
 * A model of sand dunes on a field that is closed in both directions: slabs of sand that the wind lifts and
 * that hop, shadows, slides, tufts, fences, counts of dunes, what-if questions, and fields read from a text.
 *
 * Every row of numbers is made in the constructors and used again, so that a call makes no object beside the
 * exception that it may throw.
 */
public final class SlabDunes {
    /** There is no such thing. */
    public static final int NONE = -1;

    private static final int LEAST_LINES = 3;
    private static final int MOST_ROWS = 12;
    private static final int MOST_COLUMNS = 16;
    private static final int MOST_CELLS = 192;
    private static final int MOST_SAVED = 4;
    private static final int MOST_BYTES = 220;
    private static final int WHOLE = 100;
    private static final int MOST_THRESHOLD = 99;
    private static final int TRIAL_CAPACITY = 50;
    private static final int DIRECTIONS = 4;

    private static final int HOP = 0;
    private static final int SAND_CHANCE = 1;
    private static final int BARE_CHANCE = 2;
    private static final int SLOPE = 3;
    private static final int SETTINGS = 4;

    private static final int STEPS = 0;
    private static final int SLIDES = 9;
    private static final int SEAM_TO_RIGHT = 10;
    private static final int SEAM_TO_LEFT = 11;
    private static final int COUNTS = 12;

    private static final int NO_REASON = 0;
    private static final int BARE = 1;
    private static final int FENCED = 2;
    private static final int SHADED = 3;
    private static final int HELD = 4;
    private static final int TRAPPED = 5;
    private static final int STAYED_SHADED = 6;
    private static final int STAYED = 7;
    private static final int TIRED = 8;

    private static final int LATEST = 4;
    private static final int VALUES = 9;
    private static final int CELL_VALUES = 6;

    private final Field field;
    private final Storm storm;
    private final Field trialField;
    private final Storm trialStorm;
    private final DuneMap duneMap;
    private final History history;
    private final FieldText text;

    public SlabDunes() {
        field = new Field();
        storm = new Storm(field);
        trialField = new Field();
        trialStorm = new Storm(trialField);
        duneMap = new DuneMap();
        history = new History();
        text = new FieldText();
    }

    public int begin(int rows, int columns, int height) throws IllegalArgumentException {
        if (!within(rows, LEAST_LINES, MOST_ROWS) || !within(columns, LEAST_LINES, MOST_COLUMNS)) {
            throw new IllegalArgumentException("rows or columns are out of range");
        }
        if (!within(height, 0, 20)) {
            throw new IllegalArgumentException("height is out of range");
        }
        history.save(field);
        field.resetWeather();
        field.layOut(rows, columns, height);
        return field.cells();
    }

    public int setHeight(int cell, int height) throws IndexOutOfBoundsException, IllegalArgumentException {
        if (!within(cell, 0, field.cells() - 1)) {
            throw new IndexOutOfBoundsException("no such cell");
        }
        if (!within(height, 0, 99)) {
            throw new IllegalArgumentException("height is out of range");
        }
        history.save(field);
        int previous = field.heights.at(cell);
        field.giveHeight(cell, height);
        return previous;
    }

    public int setTuft(int cell, int tuft) throws IndexOutOfBoundsException, IllegalArgumentException {
        if (!within(cell, 0, field.cells() - 1)) {
            throw new IndexOutOfBoundsException("no such cell");
        }
        if (!within(tuft, 0, WHOLE)) {
            throw new IllegalArgumentException("tuft is out of range");
        }
        history.save(field);
        int previous = field.tufts.at(cell);
        field.tufts.put(cell, tuft);
        return previous;
    }

    public int setFence(int cell, int capacity) throws IndexOutOfBoundsException, IllegalArgumentException {
        if (!within(cell, 0, field.cells() - 1)) {
            throw new IndexOutOfBoundsException("no such cell");
        }
        if (capacity != NONE && !within(capacity, 1, 50)) {
            throw new IllegalArgumentException("capacity is out of range");
        }
        history.save(field);
        int previous = field.trappedBy(cell);
        field.putFence(cell, capacity);
        return previous;
    }

    public int set(int what, int value) throws IllegalArgumentException {
        if (!isSetting(what, value)) {
            throw new IllegalArgumentException("what or value is out of range");
        }
        history.save(field);
        int previous = field.settings.at(what);
        field.settings.put(what, value);
        return previous;
    }

    public int setWind(int direction, int s) throws IllegalArgumentException {
        if (!within(direction, 0, DIRECTIONS - 1)) {
            throw new IllegalArgumentException("direction is out of range");
        }
        if (s != NONE && !within(s, 0, 999999)) {
            throw new IllegalArgumentException("s is out of range");
        }
        history.save(field);
        int previous = field.wind;
        field.wind = direction;
        if (s != NONE) {
            field.s = s;
        }
        return previous;
    }

    public int run(int steps) throws IllegalArgumentException {
        if (!within(steps, 0, 2000)) {
            throw new IllegalArgumentException("steps is out of range");
        }
        history.save(field);
        return storm.blow(steps);
    }

    public int season() {
        history.save(field);
        return field.endSeason();
    }

    public int value(int what) throws IllegalArgumentException {
        if (!within(what, 0, VALUES - 1)) {
            throw new IllegalArgumentException("what is out of range");
        }
        return field.numberOf(what);
    }

    public int cell(int cell, int what) throws IndexOutOfBoundsException, IllegalArgumentException {
        if (!within(cell, 0, field.cells() - 1)) {
            throw new IndexOutOfBoundsException("no such cell");
        }
        if (!within(what, 0, CELL_VALUES - 1)) {
            throw new IllegalArgumentException("what is out of range");
        }
        return field.numberOfCell(cell, what);
    }

    public int count(int what) throws IllegalArgumentException {
        if (!within(what, 0, COUNTS - 1)) {
            throw new IllegalArgumentException("what is out of range");
        }
        return field.counts.at(what);
    }

    public int latest(int what) throws IllegalArgumentException {
        if (!within(what, 0, LATEST - 1)) {
            throw new IllegalArgumentException("what is out of range");
        }
        return field.latestStep.at(what);
    }

    public int slabs() {
        return field.sumOfHeights();
    }

    public int relief(int what) throws IllegalArgumentException {
        switch (what) {
            case 0:
                return field.heights.at(field.highestCell());
            case 1:
                return field.highestCell();
            case 2:
                return field.steepest();
            case 3:
                return field.bareCells();
            default:
                throw new IllegalArgumentException("what is out of range");
        }
    }

    public double shadowHeight() {
        return field.meanShadowHeight();
    }

    public int dunes(int threshold) throws IllegalArgumentException {
        if (!within(threshold, 1, MOST_THRESHOLD)) {
            throw new IllegalArgumentException("threshold is out of range");
        }
        return duneMap.find(field, threshold);
    }

    public int greatestDune(int threshold) throws IllegalArgumentException {
        if (!within(threshold, 1, MOST_THRESHOLD)) {
            throw new IllegalArgumentException("threshold is out of range");
        }
        duneMap.find(field, threshold);
        return duneMap.mostSlabs();
    }

    public int duneOf(int cell, int threshold) throws IndexOutOfBoundsException, IllegalArgumentException {
        if (!within(cell, 0, field.cells() - 1)) {
            throw new IndexOutOfBoundsException("no such cell");
        }
        if (!within(threshold, 1, MOST_THRESHOLD)) {
            throw new IllegalArgumentException("threshold is out of range");
        }
        duneMap.find(field, threshold);
        return duneMap.sizeAround(cell);
    }

    public int dunesAfter(int steps, int threshold) throws IllegalArgumentException {
        if (!within(steps, 0, 1000)) {
            throw new IllegalArgumentException("steps is out of range");
        }
        if (!within(threshold, 1, MOST_THRESHOLD)) {
            throw new IllegalArgumentException("threshold is out of range");
        }
        trialField.copyFrom(field);
        trialStorm.blow(steps);
        return duneMap.find(trialField, threshold);
    }

    public int bestFence(int column, int steps) throws IndexOutOfBoundsException, IllegalArgumentException {
        if (!within(column, 0, field.columns - 1)) {
            throw new IndexOutOfBoundsException("no such column");
        }
        if (!within(steps, 0, 500)) {
            throw new IllegalArgumentException("steps is out of range");
        }
        int best = NONE;
        int most = NONE;
        int rows = field.rows;
        for (int row = 0; row < rows; row++) {
            int place = row * field.columns + column;
            int trapped = field.hasFence(place) ? NONE : trappedInTrial(place, steps);
            if (trapped > most) {
                best = row;
                most = trapped;
            }
        }
        return best;
    }

    public int liveliestWind(int steps) throws IllegalArgumentException {
        if (!within(steps, 0, 500)) {
            throw new IllegalArgumentException("steps is out of range");
        }
        int best = NONE;
        int most = NONE;
        for (int direction = 0; direction < DIRECTIONS; direction++) {
            trialField.copyFrom(field);
            trialField.wind = direction;
            int lifted = trialStorm.blow(steps);
            if (lifted > most) {
                best = direction;
                most = lifted;
            }
        }
        return best;
    }

    public int append(int value) throws IllegalArgumentException, IllegalStateException {
        if (!within(value, 0, 127)) {
            throw new IllegalArgumentException("value is out of range");
        }
        if (text.length >= MOST_BYTES) {
            throw new IllegalStateException("the text is full");
        }
        text.addByte(value);
        return text.length;
    }

    public int clearText() {
        int previous = text.length;
        text.length = 0;
        return previous;
    }

    public int parse() {
        int error = text.errorPosition();
        if (error != NONE) {
            return -10 - error;
        }
        history.save(field);
        field.layOut(text.rows, text.columns, 0);
        int all = field.cells();
        for (int place = 0; place < all; place++) {
            field.giveHeight(place, text.heightOf(place));
        }
        return all;
    }

    public int undo() throws IllegalStateException {
        if (history.kept <= 0) {
            throw new IllegalStateException("no saved state");
        }
        history.restore(field);
        return history.kept;
    }

    public long digest() {
        long h = hashed(3301L, text.length);
        for (int what = 0; what < VALUES; what++) {
            h = hashed(h, field.numberOf(what));
        }
        int all = field.cells();
        for (int place = 0; place < all; place++) {
            for (int what = 0; what < CELL_VALUES; what++) {
                h = hashed(h, field.numberOfCell(place, what));
            }
        }
        for (int what = 0; what < COUNTS; what++) {
            h = hashed(h, field.counts.at(what));
        }
        for (int what = 0; what < LATEST; what++) {
            h = hashed(h, field.latestStep.at(what));
        }
        for (int threshold = 1; threshold <= 5; threshold++) {
            h = hashed(h, duneMap.find(field, threshold));
        }
        return hashed(h, history.kept);
    }

    private static long hashed(long h, int number) {
        return 31L * h + number;
    }

    private static boolean within(int number, int least, int most) {
        return number >= least && number <= most;
    }

    private static boolean isSetting(int what, int number) {
        switch (what) {
            case HOP:
                return within(number, 1, 8);
            case SAND_CHANCE:
            case BARE_CHANCE:
                return within(number, 0, WHOLE);
            case SLOPE:
                return within(number, 1, 5);
            default:
                return false;
        }
    }

    private int trappedInTrial(int place, int steps) {
        trialField.copyFrom(field);
        trialField.putFence(place, TRIAL_CAPACITY);
        trialStorm.blow(steps);
        return trialField.trappedBy(place);
    }

    /** A row of numbers; it answers 0 and takes nothing outside its length, so that no index can ever throw. */
    private static final class Row {
        private final int[] numbers;

        Row(int length) {
            numbers = new int[length > 0 ? length : 0];
        }

        int at(int index) {
            return index >= 0 && index < numbers.length ? numbers[index] : 0;
        }

        void put(int index, int number) {
            if (index >= 0 && index < numbers.length) {
                numbers[index] = number;
            }
        }

        void add(int index, int number) {
            if (index >= 0 && index < numbers.length) {
                numbers[index] += number;
            }
        }

        void fill(int number) {
            for (int index = 0; index < numbers.length; index++) {
                numbers[index] = number;
            }
        }

        void copyFrom(Row other) {
            for (int index = 0; index < numbers.length; index++) {
                numbers[index] = other.at(index);
            }
        }
    }

    /** The whole state but the text and the saved states: the cells, the weather, the counts. */
    private static final class Field {
        private static final int ABOVE = 0;
        private static final int RIGHT = 1;
        private static final int BELOW = 2;
        private static final int SIDES = 4;

        private int rows;
        private int columns;
        private int wind;
        private int s;
        private int seasons;
        private final Row settings;
        private final Row heights;
        private final Row keptHeights;
        private final Row tufts;
        private final Row capacities;
        private final Row trapped;
        private final Row counts;
        private final Row latestStep;

        Field() {
            settings = new Row(SETTINGS);
            heights = new Row(MOST_CELLS);
            keptHeights = new Row(MOST_CELLS);
            tufts = new Row(MOST_CELLS);
            capacities = new Row(MOST_CELLS);
            trapped = new Row(MOST_CELLS);
            counts = new Row(COUNTS);
            latestStep = new Row(LATEST);
            resetWeather();
            layOut(6, 10, 2);
        }

        void resetWeather() {
            settings.put(HOP, 3);
            settings.put(SAND_CHANCE, 60);
            settings.put(BARE_CHANCE, 40);
            settings.put(SLOPE, 2);
            wind = 0;
            s = 1;
        }

        /** Everything as initially but the settings, the wind and s. */
        void layOut(int newRows, int newColumns, int height) {
            rows = newRows;
            columns = newColumns;
            seasons = 0;
            heights.fill(height);
            keptHeights.fill(height);
            tufts.fill(0);
            capacities.fill(NONE);
            trapped.fill(0);
            counts.fill(0);
            latestStep.fill(NONE);
        }

        void copyFrom(Field other) {
            rows = other.rows;
            columns = other.columns;
            wind = other.wind;
            s = other.s;
            seasons = other.seasons;
            settings.copyFrom(other.settings);
            heights.copyFrom(other.heights);
            keptHeights.copyFrom(other.keptHeights);
            tufts.copyFrom(other.tufts);
            capacities.copyFrom(other.capacities);
            trapped.copyFrom(other.trapped);
            counts.copyFrom(other.counts);
            latestStep.copyFrom(other.latestStep);
        }

        int cells() {
            return rows * columns;
        }

        int numberOf(int what) {
            switch (what) {
                case 4:
                    return rows;
                case 5:
                    return columns;
                case 6:
                    return wind;
                case 7:
                    return s;
                case 8:
                    return seasons;
                default:
                    return settings.at(what);
            }
        }

        int numberOfCell(int place, int what) {
            switch (what) {
                case 0:
                    return heights.at(place);
                case 1:
                    return tufts.at(place);
                case 2:
                    return capacities.at(place);
                case 3:
                    return trappedBy(place);
                case 4:
                    return inShadow(place) ? 1 : 0;
                default:
                    return growth(place);
            }
        }

        int growth(int place) {
            return heights.at(place) - keptHeights.at(place);
        }

        void giveHeight(int place, int height) {
            heights.put(place, height);
            keptHeights.put(place, height);
        }

        boolean hasFence(int place) {
            return capacities.at(place) != NONE;
        }

        boolean hasOpenFence(int place) {
            int capacity = capacities.at(place);
            return capacity != NONE && trapped.at(place) < capacity;
        }

        int trappedBy(int place) {
            return hasFence(place) ? trapped.at(place) : NONE;
        }

        void putFence(int place, int capacity) {
            capacities.put(place, capacity);
            trapped.put(place, 0);
        }

        /** The neighbor on a side; the sides go clockwise from the one above. */
        int neighbor(int place, int side) {
            if (columns <= 0) {
                return place;
            }
            int row = place / columns;
            int column = place % columns;
            switch (side) {
                case ABOVE:
                    return row > 0 ? place - columns : place + (rows - 1) * columns;
                case RIGHT:
                    return column < columns - 1 ? place + 1 : place - column;
                case BELOW:
                    return row < rows - 1 ? place + columns : column;
                default:
                    return column > 0 ? place - 1 : place + columns - 1;
            }
        }

        // The directions of the wind go clockwise like the sides, but begin at the right.
        int downwindSide() {
            return (wind + 1) % SIDES;
        }

        int upwindSide() {
            return (wind + 3) % SIDES;
        }

        boolean inShadow(int place) {
            int side = upwindSide();
            int line = side == ABOVE || side == BELOW ? rows : columns;
            int height = heights.at(place);
            int upwind = place;
            for (int distance = 1; distance < line; distance++) {
                upwind = neighbor(upwind, side);
                if ((heights.at(upwind) - height) * 5 > 4 * distance) {
                    return true;
                }
            }
            return false;
        }

        /** A number below n by chance. */
        int draw(int n) {
            s = (int) ((1103515245L * s + 12345L) % 2147483648L);
            return n > 0 ? s / 65536 % n : 0;
        }

        int endSeason() {
            int decreased = 0;
            int all = cells();
            for (int place = 0; place < all; place++) {
                if (tufts.at(place) > 0 && endSeasonOfTuft(place)) {
                    decreased++;
                }
            }
            keptHeights.copyFrom(heights);
            seasons++;
            return decreased;
        }

        /** Answers whether the tuft has decreased. */
        private boolean endSeasonOfTuft(int place) {
            int tuft = tufts.at(place);
            int growth = growth(place);
            if (growth > 2 || growth < -2) {
                tufts.put(place, Math.max(tuft - 30, 0));
                return true;
            }
            tufts.put(place, Math.min(tuft + 10, WHOLE));
            return false;
        }

        int sumOfHeights() {
            int sum = 0;
            int all = cells();
            for (int place = 0; place < all; place++) {
                sum += heights.at(place);
            }
            return sum;
        }

        int highestCell() {
            int highest = 0;
            int all = cells();
            for (int place = 1; place < all; place++) {
                if (heights.at(place) > heights.at(highest)) {
                    highest = place;
                }
            }
            return highest;
        }

        // Each pair of neighbors is seen from one of the two, so that two sides are enough.
        int steepest() {
            int greatest = 0;
            int all = cells();
            for (int place = 0; place < all; place++) {
                int height = heights.at(place);
                int toRight = Math.abs(height - heights.at(neighbor(place, RIGHT)));
                int toBelow = Math.abs(height - heights.at(neighbor(place, BELOW)));
                greatest = Math.max(greatest, Math.max(toRight, toBelow));
            }
            return greatest;
        }

        int bareCells() {
            int bare = 0;
            int all = cells();
            for (int place = 0; place < all; place++) {
                if (heights.at(place) == 0) {
                    bare++;
                }
            }
            return bare;
        }

        double meanShadowHeight() {
            int sum = 0;
            int shaded = 0;
            int all = cells();
            for (int place = 0; place < all; place++) {
                if (inShadow(place)) {
                    sum += heights.at(place);
                    shaded++;
                }
            }
            return shaded > 0 ? (double) sum / (double) shaded : 0.0;
        }
    }

    /** The wind at work on one field: steps, flights and slides. */
    private static final class Storm {
        private static final int MOST_HOPS = 12;
        // A slab that slides comes lower each time, so that no run comes near this number.
        private static final int MOST_SLIDES = 1000000;

        private final Field field;
        private final Row heights;

        Storm(Field field) {
            this.field = field;
            heights = field.heights;
        }

        /** Answers the number of slabs that were lifted. */
        int blow(int steps) {
            int lifted = 0;
            for (int step = 0; step < steps; step++) {
                int drawn = field.draw(field.cells());
                int reason = reasonToLie(drawn);
                if (reason == NO_REASON) {
                    carryFrom(drawn);
                    lifted++;
                } else {
                    noteStep(reason, drawn, NONE, 0);
                }
            }
            return lifted;
        }

        private int reasonToLie(int place) {
            if (heights.at(place) == 0) {
                return BARE;
            }
            if (field.hasFence(place)) {
                return FENCED;
            }
            if (field.inShadow(place)) {
                return SHADED;
            }
            return field.draw(WHOLE) < field.tufts.at(place) ? HELD : NO_REASON;
        }

        private void carryFrom(int start) {
            heights.add(start, -1);
            slideInto(start);
            int place = start;
            int hops = 0;
            int reason = NO_REASON;
            while (reason == NO_REASON && hops < MOST_HOPS) {
                hops++;
                place = hopFrom(place);
                reason = reasonToStay(place, hops);
            }
            if (reason == TRAPPED) {
                field.trapped.add(place, 1);
            }
            heights.add(place, 1);
            slideFrom(place);
            noteStep(reason, start, place, hops);
        }

        private int hopFrom(int start) {
            int place = start;
            int moves = field.settings.at(HOP);
            for (int moved = 0; moved < moves; moved++) {
                place = moveDownwind(place);
                if (field.hasOpenFence(place)) {
                    return place;
                }
            }
            return place;
        }

        private int moveDownwind(int place) {
            int next = field.neighbor(place, field.downwindSide());
            if (field.wind == 0 && next < place) {
                field.counts.add(SEAM_TO_RIGHT, 1);
            }
            if (field.wind == 2 && next > place) {
                field.counts.add(SEAM_TO_LEFT, 1);
            }
            return next;
        }

        private int reasonToStay(int place, int hops) {
            if (field.hasOpenFence(place)) {
                return TRAPPED;
            }
            if (field.inShadow(place)) {
                return STAYED_SHADED;
            }
            int ground = heights.at(place) == 0 ? BARE_CHANCE : SAND_CHANCE;
            if (field.draw(WHOLE) < field.settings.at(ground) + field.tufts.at(place)) {
                return STAYED;
            }
            return hops < MOST_HOPS ? NO_REASON : TIRED;
        }

        private void slideFrom(int start) {
            int place = start;
            for (int slides = 0; slides < MOST_SLIDES; slides++) {
                int lowest = lowestNeighbor(place);
                if (heights.at(place) - heights.at(lowest) <= field.settings.at(SLOPE)) {
                    return;
                }
                slide(place, lowest);
                place = lowest;
            }
        }

        private void slideInto(int start) {
            int place = start;
            for (int slides = 0; slides < MOST_SLIDES; slides++) {
                int highest = highestNeighbor(place);
                if (heights.at(highest) - heights.at(place) <= field.settings.at(SLOPE)) {
                    return;
                }
                slide(highest, place);
                place = highest;
            }
        }

        private void slide(int from, int to) {
            heights.add(from, -1);
            heights.add(to, 1);
            field.counts.add(SLIDES, 1);
        }

        private int lowestNeighbor(int place) {
            int lowest = field.neighbor(place, 0);
            for (int side = 1; side < Field.SIDES; side++) {
                int other = field.neighbor(place, side);
                if (heights.at(other) < heights.at(lowest)) {
                    lowest = other;
                }
            }
            return lowest;
        }

        private int highestNeighbor(int place) {
            int highest = field.neighbor(place, 0);
            for (int side = 1; side < Field.SIDES; side++) {
                int other = field.neighbor(place, side);
                if (heights.at(other) > heights.at(highest)) {
                    highest = other;
                }
            }
            return highest;
        }

        private void noteStep(int reason, int drawn, int landed, int hops) {
            field.counts.add(STEPS, 1);
            field.counts.add(reason, 1);
            field.latestStep.put(0, reason);
            field.latestStep.put(1, drawn);
            field.latestStep.put(2, landed);
            field.latestStep.put(3, hops);
        }
    }

    /** The dunes of a field for one threshold, as the last find() has left them; they are numbered from 1. */
    private static final class DuneMap {
        private final Row duneNumbers;
        private final Row sizes;
        private final Row sums;
        private final Row queue;
        private int found;

        DuneMap() {
            duneNumbers = new Row(MOST_CELLS);
            sizes = new Row(MOST_CELLS + 1);
            sums = new Row(MOST_CELLS + 1);
            queue = new Row(MOST_CELLS);
        }

        /** Answers the number of dunes. */
        int find(Field field, int threshold) {
            duneNumbers.fill(0);
            sizes.fill(0);
            sums.fill(0);
            found = 0;
            int all = field.cells();
            for (int place = 0; place < all; place++) {
                if (field.heights.at(place) >= threshold && duneNumbers.at(place) == 0) {
                    found++;
                    spread(field, place, threshold);
                }
            }
            return found;
        }

        // A cell is numbered when it joins the queue, so that it joins once and the queue holds all cells.
        private void spread(Field field, int start, int threshold) {
            duneNumbers.put(start, found);
            queue.put(0, start);
            int queued = 1;
            for (int next = 0; next < queued && next < MOST_CELLS; next++) {
                int place = queue.at(next);
                sizes.add(found, 1);
                sums.add(found, field.heights.at(place));
                for (int side = 0; side < Field.SIDES; side++) {
                    int other = field.neighbor(place, side);
                    if (field.heights.at(other) >= threshold && duneNumbers.at(other) == 0) {
                        duneNumbers.put(other, found);
                        queue.put(queued, other);
                        queued++;
                    }
                }
            }
        }

        int mostSlabs() {
            int most = 0;
            for (int dune = 1; dune <= found; dune++) {
                most = Math.max(most, sums.at(dune));
            }
            return most;
        }

        // No dune has the number 0, so that a cell in no dune finds the size 0 there.
        int sizeAround(int place) {
            return sizes.at(duneNumbers.at(place));
        }
    }

    /** The saved states: a ring of fields that are used again. */
    private static final class History {
        private final Field[] states;
        private int oldest;
        private int kept;

        History() {
            states = new Field[MOST_SAVED];
            for (int index = 0; index < states.length; index++) {
                states[index] = new Field();
            }
        }

        void save(Field field) {
            if (kept == MOST_SAVED) {
                oldest = (oldest + 1) % MOST_SAVED;
                kept--;
            }
            Field state = stateAt(kept);
            if (state != null) {
                state.copyFrom(field);
            }
            kept++;
        }

        /** Puts the latest state back and forgets it. */
        void restore(Field field) {
            kept--;
            Field state = stateAt(kept);
            if (state != null) {
                field.copyFrom(state);
            }
        }

        private Field stateAt(int age) {
            int index = (oldest + age) % MOST_SAVED;
            return index >= 0 && index < states.length ? states[index] : null;
        }
    }

    /** The field text; rows and columns are those that the last errorPosition() without an error has found. */
    private static final class FieldText {
        private final Row bytes;
        private int length;
        private int rows;
        private int columns;

        FieldText() {
            bytes = new Row(MOST_BYTES);
        }

        void addByte(int number) {
            bytes.put(length, number);
            length++;
        }

        /** NONE if there is no syntax error. */
        int errorPosition() {
            rows = 1;
            columns = 0;
            int inRow = 0;
            for (int position = 0; position < length; position++) {
                int sign = bytes.at(position);
                if (within(sign, '0', '9')) {
                    if (inRow >= mostInRow()) {
                        return position;
                    }
                    inRow++;
                } else if (sign == '/') {
                    if (inRow < leastInRow() || rows >= MOST_ROWS) {
                        return position;
                    }
                    columns = inRow;
                    rows++;
                    inRow = 0;
                } else {
                    return position;
                }
            }
            return rows >= LEAST_LINES && inRow == columns ? NONE : length;
        }

        // The first row is free in its length, the others have the length of the first.
        private int mostInRow() {
            return rows == 1 ? MOST_COLUMNS : columns;
        }

        private int leastInRow() {
            return rows == 1 ? LEAST_LINES : columns;
        }

        int heightOf(int place) {
            if (columns <= 0) {
                return 0;
            }
            int separators = place / columns;
            return bytes.at(place + separators) - '0';
        }
    }
}
