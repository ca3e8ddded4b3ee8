/**
 * A beach as rows of sand from the dune to the deep, the waves that wait to run over it, and what they did.
 * Every object it needs is made in the constructor, so that calls make none.
 */
public final class BeachBars {
    public static final int UNKNOWN = -1001;
    public static final int BAD_VALUE = -1002;
    public static final int FULL = -1003;
    public static final int NOT_POSSIBLE = -1004;
    public static final int NONE = -1005;

    private static final int TEXT_FAULT = -2000;

    private static final int ROWS = 4;
    private static final int CELLS = 20;
    private static final int LAST_CELL = CELLS - 1;
    private static final int MOST_SAND = 99;
    private static final int LEAST_LEVEL = 20;
    private static final int MOST_LEVEL = 70;
    private static final int FIRST_LEVEL = 40;
    private static final int MOST_SURGE = 30;
    private static final int TALLEST_WAVE = 20;
    private static final int MOST_WAVES = 24;
    private static final int MOST_SIGNS = 60;
    private static final int MOST_STATES = 4;

    // The settings, by their numbers.
    private static final int SEAWARD_FROM = 0;
    private static final int SORTING = 1;
    private static final int GAP = 2;
    private static final int STEEPEST = 3;
    private static final int SETTINGS = 4;
    private static final int[] LEAST_SETTING = {1, 0, 1, 4};
    private static final int[] MOST_SETTING = {20, 2, 20, 30};
    private static final int[] FIRST_SETTING = {8, 0, 3, 12};

    // The ways of sorting; 0 leaves the waves as they came.
    private static final int HIGHEST_FIRST = 1;
    private static final int LOWEST_FIRST = 2;

    // The totals, by the numbers that count() has for them; 0 is not kept.
    private static final int TO_THE_DEEP = 1;
    private static final int TO_THE_DUNE = 2;
    private static final int BROUGHT = 3;
    private static final int TAKEN = 4;
    private static final int WAVES_RUN = 5;
    private static final int BREAKS_SO_FAR = 6;
    private static final int SCOURED = 7;
    private static final int SLUMPED = 8;
    private static final int TOTALS = 9;

    // What is told of a wave that ran, by the numbers that ended() has for it.
    private static final int ROW = 0;
    private static final int CAME_IN = 1;
    private static final int FIRST_BREAK = 2;
    private static final int LAST_PLACE = 3;
    private static final int REASON = 4;
    private static final int BREAKS = 5;
    private static final int MOVED = 6;
    private static final int FACTS = 7;

    // The reasons why waves end.
    private static final int DRY = 1;
    private static final int SPENT = 2;
    private static final int AT_THE_DUNE = 3;

    // What a text of waves may go on with; 0 or more, so that a fault is told apart.
    private static final int WANTS_ROW = 0;
    private static final int WANTS_H = 1;
    private static final int WANTS_HEIGHT = 2;
    private static final int AFTER_HEIGHT = 3;
    private static final int WANTS_TIMES = 4;
    private static final int AFTER_TIMES = 5;
    private static final int NOT_ALLOWED = -1;

    private final State now = new State();
    private final State before = new State();
    private final State snapshot = new State();
    private boolean hasSnapshot;
    private final History history = new History();
    private final WaveText text = new WaveText();
    private final Ride ride = new Ride();
    private final Sand trial = new Sand();
    private final int[] order = new int[MOST_WAVES];

    public BeachBars() {
    }

    // ---- the beach

    public int dump(int row, int cell, int height) {
        if (!isRow(row) || !isCell(cell)) {
            return UNKNOWN;
        }
        if (height < 0 || height > MOST_SAND) {
            return BAD_VALUE;
        }
        int previous = now.beach.heightAt(row, cell);
        if (previous == height) {
            return NONE;
        }
        history.record(now);
        now.beach.setHeight(row, cell, height);
        if (height > previous) {
            now.totals[BROUGHT] += height - previous;
        } else {
            now.totals[TAKEN] += previous - height;
        }
        return previous;
    }

    public int setLevel(int level) {
        if (level < LEAST_LEVEL || level > MOST_LEVEL) {
            return BAD_VALUE;
        }
        int previous = now.level;
        if (previous == level) {
            return NONE;
        }
        history.record(now);
        now.level = level;
        return previous;
    }

    public int set(int which, int value) {
        if (which < 0 || which >= SETTINGS) {
            return BAD_VALUE;
        }
        if (value < LEAST_SETTING[which] || value > MOST_SETTING[which]) {
            return BAD_VALUE;
        }
        int previous = now.settings[which];
        if (previous == value) {
            return NONE;
        }
        history.record(now);
        now.settings[which] = value;
        return previous;
    }

    // ---- waves

    public int wave(int row, int height) {
        if (!isRow(row)) {
            return UNKNOWN;
        }
        if (!isWaveHeight(height)) {
            return BAD_VALUE;
        }
        if (now.queue.size() >= MOST_WAVES) {
            return FULL;
        }
        history.record(now);
        now.queue.add(row, height);
        return now.queue.size();
    }

    public int waveAll() {
        int fault = text.read();
        if (fault >= 0) {
            return TEXT_FAULT - fault;
        }
        int waves = text.waves();
        if (now.queue.size() + waves > MOST_WAVES) {
            return FULL;
        }
        history.record(now);
        now.queue.addAll(text.queue());
        return waves;
    }

    public int strike(int least, int most) {
        if (!isWaveHeight(least) || !isWaveHeight(most) || most < least) {
            return BAD_VALUE;
        }
        if (!now.queue.hasBetween(least, most)) {
            return NONE;
        }
        history.record(now);
        return now.queue.removeBetween(least, most);
    }

    public int run(int surge) {
        if (surge < 0 || surge > MOST_SURGE) {
            return BAD_VALUE;
        }
        if (now.queue.size() == 0) {
            return NONE;
        }
        history.record(now);
        int level = now.level + surge;
        int breaks = runWaves(level);
        letSandFollow(level);
        now.queue.removeAll();
        return breaks;
    }

    public int settle() {
        before.copyFrom(now);
        int moved = letSandFollow(now.level);
        if (moved == 0) {
            return NONE;
        }
        history.record(before);
        return moved;
    }

    // ---- texts

    public int type(char character) {
        if (text.length() >= MOST_SIGNS) {
            return FULL;
        }
        text.add(character);
        return text.length();
    }

    public int clearText() {
        int length = text.length();
        text.empty();
        return length;
    }

    // ---- history

    public int undo() {
        if (history.size() == 0) {
            return NONE;
        }
        history.takeBack(now);
        return history.size();
    }

    public int keep() {
        snapshot.copyFrom(now);
        hasSnapshot = true;
        return now.beach.all();
    }

    public int restore() {
        if (!hasSnapshot) {
            return NONE;
        }
        history.record(now);
        now.copyFrom(snapshot);
        return now.beach.all();
    }

    // ---- what is told

    public int cell(int row, int cell, int what) {
        if (!isRow(row) || !isCell(cell)) {
            return UNKNOWN;
        }
        Sand beach = now.beach;
        switch (what) {
            case 0:
                return beach.heightAt(row, cell);
            case 1:
                return now.level - beach.heightAt(row, cell);
            case 2:
                return beach.isBar(row, cell, now.level) ? 1 : 0;
            case 3:
                return beach.isGap(row, cell, now.level, now.settings[GAP]) ? 1 : 0;
            case 4:
                return beach.heightAt(row, cell) - firstHeight(cell);
            default:
                return BAD_VALUE;
        }
    }

    public int row(int row, int what) {
        if (!isRow(row)) {
            return UNKNOWN;
        }
        Sand beach = now.beach;
        switch (what) {
            case 0:
                return beach.inRow(row);
            case 1:
                return Integer.bitCount(beach.bars(row, now.level));
            case 2:
                return Integer.bitCount(beach.gaps(row, now.level, now.settings[GAP]));
            case 3:
                return beach.lastDry(row, now.level);
            case 4:
                return beach.greatestDifference(row);
            case 5:
                return beach.bars(row, now.level);
            case 6:
                return beach.highestBar(row, now.level);
            default:
                return BAD_VALUE;
        }
    }

    public int waiting(int place, boolean height) {
        if (place < 0) {
            return BAD_VALUE;
        }
        if (place >= now.queue.size()) {
            return NONE;
        }
        return height ? now.queue.heightOf(place) : now.queue.rowOf(place);
    }

    public int ended(int place, int what) {
        if (place < 0 || what < 0 || what >= FACTS) {
            return BAD_VALUE;
        }
        if (place >= now.told) {
            return NONE;
        }
        return now.tales[place * FACTS + what];
    }

    public int would(int row, int height, int what) {
        if (!isRow(row)) {
            return UNKNOWN;
        }
        if (!isWaveHeight(height) || what < FIRST_BREAK || what >= FACTS) {
            return BAD_VALUE;
        }
        trial.copyFrom(now.beach);
        ride.go(trial, row, height, now.level, goesSeaward(height));
        return ride.fact(what);
    }

    public int sand(int from, int to) {
        if (!isCell(from) || !isCell(to)) {
            return UNKNOWN;
        }
        if (to < from) {
            return BAD_VALUE;
        }
        return now.beach.between(from, to);
    }

    public int count(int what) {
        if (what >= TO_THE_DEEP && what < TOTALS) {
            return now.totals[what];
        }
        Sand beach = now.beach;
        switch (what) {
            case 0:
                return beach.all();
            case 9:
                return now.queue.size();
            case 10:
                return now.level;
            case 11:
                return now.settings[SEAWARD_FROM];
            case 12:
                return now.settings[SORTING];
            case 13:
                return now.settings[GAP];
            case 14:
                return now.settings[STEEPEST];
            case 15:
                return beach.allBars(now.level);
            case 16:
                return beach.allGaps(now.level, now.settings[GAP]);
            case 17:
                return beach.allDry(now.level);
            case 18:
                return history.size();
            case 19:
                return text.length();
            default:
                return BAD_VALUE;
        }
    }

    private static boolean isRow(int row) {
        return row >= 0 && row < ROWS;
    }

    private static boolean isCell(int cell) {
        return cell >= 0 && cell < CELLS;
    }

    private static boolean isWaveHeight(int height) {
        return height >= 1 && height <= TALLEST_WAVE;
    }

    private static int firstHeight(int cell) {
        return 60 - 3 * cell;
    }

    private boolean goesSeaward(int height) {
        return height >= now.settings[SEAWARD_FROM];
    }

    /** Runs the waves that wait, in their order, and tells how often they broke. */
    private int runWaves(int level) {
        sortWaves();
        int breaks = 0;
        int waves = now.queue.size();
        for (int turn = 0; turn < waves; turn++) {
            int place = order[turn];
            int height = now.queue.heightOf(place);
            ride.go(now.beach, now.queue.rowOf(place), height, level, goesSeaward(height));
            now.takeOver(ride, turn);
            breaks += ride.fact(BREAKS);
        }
        now.told = waves;
        return breaks;
    }

    /** Puts the places of the waiting waves in order; only a wave that must run earlier passes another. */
    private void sortWaves() {
        int waves = now.queue.size();
        for (int place = 0; place < waves; place++) {
            int at = place;
            while (at > 0 && runsEarlier(place, order[at - 1])) {
                order[at] = order[at - 1];
                at--;
            }
            order[at] = place;
        }
    }

    private boolean runsEarlier(int place, int other) {
        int height = now.queue.heightOf(place);
        int otherHeight = now.queue.heightOf(other);
        switch (now.settings[SORTING]) {
            case HIGHEST_FIRST:
                return height > otherHeight;
            case LOWEST_FIRST:
                return height < otherHeight;
            default:
                return false;
        }
    }

    /** Lets rips follow, and slumping after them; tells how many units both moved. */
    private int letSandFollow(int level) {
        int scoured = now.beach.scour(level, now.settings[GAP]);
        int slumped = now.beach.slump(now.settings[STEEPEST]);
        now.totals[SCOURED] += scoured;
        now.totals[SLUMPED] += slumped;
        return scoured + slumped;
    }

    /** The heights of all cells, and what the sand does by itself. */
    private static final class Sand {
        // Each move lessens the sum of the squares of a row's heights by 8 or more: some 25000 times are enough.
        private static final int MOST_TIMES = 1000000;

        private final int[] heights = new int[ROWS * CELLS];
        private final int[] gapsFound = new int[ROWS];

        Sand() {
            for (int at = 0; at < heights.length; at++) {
                heights[at] = firstHeight(at % CELLS);
            }
        }

        void copyFrom(Sand other) {
            System.arraycopy(other.heights, 0, heights, 0, heights.length);
        }

        int heightAt(int row, int cell) {
            return heights[row * CELLS + cell];
        }

        void setHeight(int row, int cell, int height) {
            heights[row * CELLS + cell] = height;
        }

        void addTo(int row, int cell, int units) {
            heights[row * CELLS + cell] += units;
        }

        int between(int from, int to) {
            int sum = 0;
            for (int row = 0; row < ROWS; row++) {
                for (int cell = from; cell <= to; cell++) {
                    sum += heightAt(row, cell);
                }
            }
            return sum;
        }

        int all() {
            return between(0, LAST_CELL);
        }

        int inRow(int row) {
            int sum = 0;
            for (int cell = 0; cell < CELLS; cell++) {
                sum += heightAt(row, cell);
            }
            return sum;
        }

        boolean isDry(int row, int cell, int level) {
            return level <= heightAt(row, cell);
        }

        boolean isBar(int row, int cell, int level) {
            if (cell < 1 || cell >= LAST_CELL) {
                return false;
            }
            int at = row * CELLS + cell;
            int height = heights[at];
            return height < level && height > heights[at - 1] && height > heights[at + 1];
        }

        boolean isGap(int row, int cell, int level, int gap) {
            if (cell < 1 || cell >= LAST_CELL || isDry(row, cell, level) || isBar(row, cell, level)) {
                return false;
            }
            int least = heightAt(row, cell) + gap;
            return row > 0 && isBarFrom(row - 1, cell, level, least)
                    || row < ROWS - 1 && isBarFrom(row + 1, cell, level, least);
        }

        private boolean isBarFrom(int row, int cell, int level, int least) {
            return heightAt(row, cell) >= least && isBar(row, cell, level);
        }

        /** The bars of a row as bits. */
        int bars(int row, int level) {
            int bits = 0;
            for (int cell = 1; cell < LAST_CELL; cell++) {
                if (isBar(row, cell, level)) {
                    bits |= 1 << cell;
                }
            }
            return bits;
        }

        /** The gaps of a row as bits. */
        int gaps(int row, int level, int gap) {
            int bits = 0;
            for (int cell = 1; cell < LAST_CELL; cell++) {
                if (isGap(row, cell, level, gap)) {
                    bits |= 1 << cell;
                }
            }
            return bits;
        }

        int allBars(int level) {
            int sum = 0;
            for (int row = 0; row < ROWS; row++) {
                sum += Integer.bitCount(bars(row, level));
            }
            return sum;
        }

        int allGaps(int level, int gap) {
            int sum = 0;
            for (int row = 0; row < ROWS; row++) {
                sum += Integer.bitCount(gaps(row, level, gap));
            }
            return sum;
        }

        int allDry(int level) {
            int sum = 0;
            for (int row = 0; row < ROWS; row++) {
                for (int cell = 0; cell < CELLS; cell++) {
                    if (isDry(row, cell, level)) {
                        sum++;
                    }
                }
            }
            return sum;
        }

        int lastDry(int row, int level) {
            for (int cell = LAST_CELL; cell >= 0; cell--) {
                if (isDry(row, cell, level)) {
                    return cell;
                }
            }
            return NONE;
        }

        int greatestDifference(int row) {
            int greatest = 0;
            for (int cell = 0; cell < LAST_CELL; cell++) {
                greatest = Math.max(greatest, Math.abs(heightAt(row, cell) - heightAt(row, cell + 1)));
            }
            return greatest;
        }

        int highestBar(int row, int level) {
            int found = NONE;
            int highest = -1;
            for (int cell = 1; cell < LAST_CELL; cell++) {
                if (isBar(row, cell, level) && heightAt(row, cell) > highest) {
                    highest = heightAt(row, cell);
                    found = cell;
                }
            }
            return found;
        }

        /** Lets rips follow. All gaps are found first, because sand that a rip moves makes and ends gaps. */
        int scour(int level, int gap) {
            for (int row = 0; row < ROWS; row++) {
                gapsFound[row] = gaps(row, level, gap);
            }
            int moved = 0;
            for (int row = 0; row < ROWS; row++) {
                for (int cell = 1; cell < LAST_CELL; cell++) {
                    if ((gapsFound[row] >> cell & 1) == 1) {
                        moved += scourCell(row, cell);
                    }
                }
            }
            return moved;
        }

        private int scourCell(int row, int cell) {
            if (heightAt(row, cell) == 0 || heightAt(row, cell + 1) >= MOST_SAND) {
                return 0;
            }
            addTo(row, cell, -1);
            addTo(row, cell + 1, 1);
            return 1;
        }

        /** Lets sand slump. No sand leaves its row, so each row comes to rest by itself. */
        int slump(int steepest) {
            int moved = 0;
            for (int row = 0; row < ROWS; row++) {
                moved += slumpRow(row, steepest);
            }
            return moved;
        }

        private int slumpRow(int row, int steepest) {
            int moved = 0;
            for (int time = 0; time < MOST_TIMES; time++) {
                int units = slumpRowOnce(row, steepest);
                if (units == 0) {
                    return moved;
                }
                moved += units;
            }
            return moved;
        }

        private int slumpRowOnce(int row, int steepest) {
            int moved = 0;
            for (int cell = 0; cell < LAST_CELL; cell++) {
                int at = row * CELLS + cell;
                int difference = heights[at] - heights[at + 1];
                if (difference > steepest) {
                    heights[at]--;
                    heights[at + 1]++;
                    moved++;
                } else if (difference < -steepest) {
                    heights[at]++;
                    heights[at + 1]--;
                    moved++;
                }
            }
            return moved;
        }
    }

    /** One wave on its way from the deep toward the dune, and what is told of it. */
    private static final class Ride {
        private final int[] facts = new int[FACTS];
        private int toTheDeep;
        private int toTheDune;

        Ride() {
        }

        int fact(int what) {
            return facts[what];
        }

        void go(Sand beach, int row, int cameIn, int level, boolean seaward) {
            begin(row, cameIn);
            int height = cameIn;
            for (int cell = LAST_CELL; cell >= 0; cell--) {
                int depth = level - beach.heightAt(row, cell);
                if (depth <= 0) {
                    end(cell, DRY);
                    return;
                }
                if (depth < height) {
                    breakAt(beach, cell, height, seaward);
                    height = height / 2;
                    if (height == 0) {
                        end(cell, SPENT);
                        return;
                    }
                }
            }
            end(-1, AT_THE_DUNE);
        }

        private void begin(int row, int cameIn) {
            facts[ROW] = row;
            facts[CAME_IN] = cameIn;
            facts[FIRST_BREAK] = NONE;
            facts[BREAKS] = 0;
            facts[MOVED] = 0;
            toTheDeep = 0;
            toTheDune = 0;
        }

        private void end(int cell, int reason) {
            facts[LAST_PLACE] = cell;
            facts[REASON] = reason;
        }

        private void breakAt(Sand beach, int cell, int height, boolean seaward) {
            if (facts[BREAKS] == 0) {
                facts[FIRST_BREAK] = cell;
            }
            facts[BREAKS]++;
            int row = facts[ROW];
            int units = Math.min(1 + height / 5, beach.heightAt(row, cell));
            int taken = give(beach, seaward ? cell + 1 : cell - 1, units);
            beach.addTo(row, cell, -taken);
            facts[MOVED] += taken;
        }

        /** Gives units to a cell, the deep or the dune; tells how many are taken there. */
        private int give(Sand beach, int cell, int units) {
            if (cell < 0) {
                toTheDune += units;
                return units;
            }
            if (cell >= CELLS) {
                toTheDeep += units;
                return units;
            }
            int row = facts[ROW];
            int taken = Math.min(units, MOST_SAND - beach.heightAt(row, cell));
            beach.addTo(row, cell, taken);
            return taken;
        }
    }

    /** Waves that wait, as they came. */
    private static final class Queue {
        private final int[] rows = new int[MOST_WAVES];
        private final int[] heights = new int[MOST_WAVES];
        private int size;

        Queue() {
        }

        void copyFrom(Queue other) {
            System.arraycopy(other.rows, 0, rows, 0, MOST_WAVES);
            System.arraycopy(other.heights, 0, heights, 0, MOST_WAVES);
            size = other.size;
        }

        int size() {
            return size;
        }

        int rowOf(int place) {
            return rows[place];
        }

        int heightOf(int place) {
            return heights[place];
        }

        /** Adds a wave; one for which there is no room is left out. */
        void add(int row, int height) {
            if (size < MOST_WAVES) {
                rows[size] = row;
                heights[size] = height;
                size++;
            }
        }

        void addAll(Queue other) {
            for (int place = 0; place < other.size; place++) {
                add(other.rows[place], other.heights[place]);
            }
        }

        boolean hasBetween(int least, int most) {
            for (int place = 0; place < size; place++) {
                if (heights[place] >= least && heights[place] <= most) {
                    return true;
                }
            }
            return false;
        }

        /** Removes the waves of these heights; the others keep their order. */
        int removeBetween(int least, int most) {
            int left = 0;
            for (int place = 0; place < size; place++) {
                if (heights[place] < least || heights[place] > most) {
                    rows[left] = rows[place];
                    heights[left] = heights[place];
                    left++;
                }
            }
            int removed = size - left;
            size = left;
            return removed;
        }

        void removeAll() {
            size = 0;
        }
    }

    /** All that undo() and restore() bring back. */
    private static final class State {
        private final Sand beach = new Sand();
        private final Queue queue = new Queue();
        private final int[] settings = new int[SETTINGS];
        private final int[] totals = new int[TOTALS];
        private final int[] tales = new int[MOST_WAVES * FACTS];
        private int told;
        private int level = FIRST_LEVEL;

        State() {
            System.arraycopy(FIRST_SETTING, 0, settings, 0, SETTINGS);
        }

        void copyFrom(State other) {
            beach.copyFrom(other.beach);
            queue.copyFrom(other.queue);
            System.arraycopy(other.settings, 0, settings, 0, SETTINGS);
            System.arraycopy(other.totals, 0, totals, 0, TOTALS);
            System.arraycopy(other.tales, 0, tales, 0, tales.length);
            told = other.told;
            level = other.level;
        }

        /** Keeps what is told of a wave that ran, and counts what it did. */
        void takeOver(Ride ride, int turn) {
            System.arraycopy(ride.facts, 0, tales, turn * FACTS, FACTS);
            totals[TO_THE_DEEP] += ride.toTheDeep;
            totals[TO_THE_DUNE] += ride.toTheDune;
            totals[WAVES_RUN]++;
            totals[BREAKS_SO_FAR] += ride.fact(BREAKS);
        }
    }

    /** The latest states before acts, in a ring: a new one takes the place of the oldest. */
    private static final class History {
        private final State[] states = new State[MOST_STATES];
        private int next;
        private int size;

        History() {
            for (int at = 0; at < MOST_STATES; at++) {
                states[at] = new State();
            }
        }

        int size() {
            return size;
        }

        void record(State state) {
            states[next].copyFrom(state);
            next = (next + 1) % MOST_STATES;
            size = Math.min(size + 1, MOST_STATES);
        }

        /** Brings the latest state back, and forgets it. */
        void takeBack(State state) {
            next = (next + MOST_STATES - 1) % MOST_STATES;
            size--;
            state.copyFrom(states[next]);
        }
    }

    /** The text, and the waves that are read from it. */
    private static final class WaveText {
        private final char[] signs = new char[MOST_SIGNS];
        private int length;
        private final Queue found = new Queue();
        private int waves;
        private int row;
        private int height;
        private int times;

        WaveText() {
        }

        int length() {
            return length;
        }

        void add(char sign) {
            if (length < MOST_SIGNS) {
                signs[length] = sign;
                length++;
            }
        }

        void empty() {
            length = 0;
        }

        /** How many waves the text has that was read last. */
        int waves() {
            return waves;
        }

        /** The waves of the text that was read last, as far as there is room for them in an empty queue. */
        Queue queue() {
            return found;
        }

        /** Reads the waves; tells the fault of the text, or -1 if it has none. */
        int read() {
            found.removeAll();
            waves = 0;
            int state = WANTS_ROW;
            for (int at = 0; at < length; at++) {
                state = after(state, signs[at]);
                if (state == NOT_ALLOWED) {
                    return at;
                }
            }
            if (state != AFTER_HEIGHT && state != AFTER_TIMES) {
                return length;
            }
            endGroup();
            return -1;
        }

        private int after(int state, char sign) {
            switch (state) {
                case WANTS_ROW:
                    return takeRow(sign);
                case WANTS_H:
                    return sign == 'h' ? WANTS_HEIGHT : NOT_ALLOWED;
                case WANTS_HEIGHT:
                    return takeHeight(sign);
                case AFTER_HEIGHT:
                    return goOnAfterHeight(sign);
                case WANTS_TIMES:
                    return takeTimes(sign);
                case AFTER_TIMES:
                    return goOnAfterGroup(sign);
                default:
                    return NOT_ALLOWED;
            }
        }

        private int takeRow(char sign) {
            if (sign < '0' || sign > '3') {
                return NOT_ALLOWED;
            }
            row = sign - '0';
            times = 1;
            return WANTS_H;
        }

        private int takeHeight(char sign) {
            if (sign < '1' || sign > '9') {
                return NOT_ALLOWED;
            }
            height = sign - '0';
            return AFTER_HEIGHT;
        }

        private int goOnAfterHeight(char sign) {
            if (sign == 'x') {
                return WANTS_TIMES;
            }
            if (sign < '0' || sign > '9') {
                return goOnAfterGroup(sign);
            }
            int longer = height * 10 + sign - '0';
            if (longer > TALLEST_WAVE) {
                return NOT_ALLOWED;
            }
            height = longer;
            return AFTER_HEIGHT;
        }

        private int takeTimes(char sign) {
            if (sign < '2' || sign > '9') {
                return NOT_ALLOWED;
            }
            times = sign - '0';
            return AFTER_TIMES;
        }

        private int goOnAfterGroup(char sign) {
            if (sign != ',') {
                return NOT_ALLOWED;
            }
            endGroup();
            return WANTS_ROW;
        }

        private void endGroup() {
            for (int time = 0; time < times; time++) {
                found.add(row, height);
            }
            waves += times;
        }
    }
}
