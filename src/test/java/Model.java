import java.util.ArrayDeque;
import java.util.ArrayList;
import java.util.Comparator;
import java.util.Deque;
import java.util.List;
import java.util.regex.Matcher;
import java.util.regex.Pattern;

/** The document once more, with the library and without care for room: what BeachBars is compared with. */
final class Model {
    private static final int UNKNOWN = -1001;
    private static final int BAD_VALUE = -1002;
    private static final int FULL = -1003;
    private static final int NONE = -1005;
    private static final String GROUP = "[0-3]h(20|1[0-9]|[1-9])(x[2-9])?";
    private static final Pattern TEXT = Pattern.compile(GROUP + "(," + GROUP + ")*");
    private static final int[][] RANGES = {{1, 20}, {0, 2}, {1, 20}, {4, 30}};

    private record Wave(int row, int height) {
    }

    private static final class State {
        int[][] sand = new int[4][20];
        int level = 40;
        int[] settings = {8, 0, 3, 12};
        int[] totals = new int[9];
        List<Wave> waiting = new ArrayList<>();
        List<int[]> ended = new ArrayList<>();

        State copy() {
            State copy = new State();
            for (int row = 0; row < 4; row++) {
                copy.sand[row] = sand[row].clone();
            }
            copy.level = level;
            copy.settings = settings.clone();
            copy.totals = totals.clone();
            copy.waiting = new ArrayList<>(waiting);
            copy.ended = new ArrayList<>(ended);
            return copy;
        }
    }

    private State now = new State();
    private State snapshot;
    private final Deque<State> history = new ArrayDeque<>();
    private String text = "";

    Model() {
        for (int row = 0; row < 4; row++) {
            for (int cell = 0; cell < 20; cell++) {
                now.sand[row][cell] = 60 - 3 * cell;
            }
        }
    }

    private void record(State state) {
        history.addLast(state);
        if (history.size() > 4) {
            history.removeFirst();
        }
    }

    private static boolean in(int value, int least, int most) {
        return least <= value && value <= most;
    }

    int dump(int row, int cell, int height) {
        if (!in(row, 0, 3) || !in(cell, 0, 19)) {
            return UNKNOWN;
        }
        if (!in(height, 0, 99)) {
            return BAD_VALUE;
        }
        int was = now.sand[row][cell];
        if (was == height) {
            return NONE;
        }
        record(now.copy());
        now.sand[row][cell] = height;
        now.totals[3] += Math.max(0, height - was);
        now.totals[4] += Math.max(0, was - height);
        return was;
    }

    int setLevel(int level) {
        if (!in(level, 20, 70)) {
            return BAD_VALUE;
        }
        int was = now.level;
        if (was == level) {
            return NONE;
        }
        record(now.copy());
        now.level = level;
        return was;
    }

    int set(int which, int value) {
        if (!in(which, 0, 3) || !in(value, RANGES[which][0], RANGES[which][1])) {
            return BAD_VALUE;
        }
        int was = now.settings[which];
        if (was == value) {
            return NONE;
        }
        record(now.copy());
        now.settings[which] = value;
        return was;
    }

    int wave(int row, int height) {
        if (!in(row, 0, 3)) {
            return UNKNOWN;
        }
        if (!in(height, 1, 20)) {
            return BAD_VALUE;
        }
        if (now.waiting.size() == 24) {
            return FULL;
        }
        record(now.copy());
        now.waiting.add(new Wave(row, height));
        return now.waiting.size();
    }

    private int fault() {
        if (TEXT.matcher(text).matches()) {
            return -1;
        }
        for (int length = 1; length <= text.length(); length++) {
            Matcher matcher = TEXT.matcher(text.substring(0, length));
            if (!matcher.matches() && !matcher.hitEnd()) {
                return length - 1;
            }
        }
        return text.length();
    }

    int waveAll() {
        int fault = fault();
        if (fault >= 0) {
            return -2000 - fault;
        }
        List<Wave> read = new ArrayList<>();
        for (String group : text.split(",")) {
            String[] parts = group.split("[hx]");
            int times = parts.length == 3 ? Integer.parseInt(parts[2]) : 1;
            for (int i = 0; i < times; i++) {
                read.add(new Wave(Integer.parseInt(parts[0]), Integer.parseInt(parts[1])));
            }
        }
        if (now.waiting.size() + read.size() > 24) {
            return FULL;
        }
        record(now.copy());
        now.waiting.addAll(read);
        return read.size();
    }

    int strike(int least, int most) {
        if (!in(least, 1, 20) || !in(most, 1, 20) || most < least) {
            return BAD_VALUE;
        }
        State before = now.copy();
        if (!now.waiting.removeIf(wave -> in(wave.height(), least, most))) {
            return NONE;
        }
        record(before);
        return before.waiting.size() - now.waiting.size();
    }

    int run(int surge) {
        if (!in(surge, 0, 30)) {
            return BAD_VALUE;
        }
        if (now.waiting.isEmpty()) {
            return NONE;
        }
        record(now.copy());
        List<Wave> waves = new ArrayList<>(now.waiting);
        Comparator<Wave> byHeight = Comparator.comparingInt(Wave::height);
        if (now.settings[1] == 1) {
            waves.sort(byHeight.reversed());
        } else if (now.settings[1] == 2) {
            waves.sort(byHeight);
        }
        now.ended.clear();
        int breaks = 0;
        for (Wave wave : waves) {
            int[] facts = go(now, wave, now.level + surge);
            now.ended.add(facts);
            breaks += facts[5];
            now.totals[5]++;
            now.totals[6] += facts[5];
        }
        follow(now.level + surge);
        now.waiting.clear();
        return breaks;
    }

    private static int[] go(State state, Wave wave, int level) {
        int[] facts = {wave.row(), wave.height(), NONE, -1, 3, 0, 0};
        int[] sand = state.sand[wave.row()];
        int height = wave.height();
        for (int at = 19; at >= 0; at--) {
            if (level - sand[at] <= 0) {
                facts[3] = at;
                facts[4] = 1;
                return facts;
            }
            if (level - sand[at] >= height) {
                continue;
            }
            facts[2] = facts[5] == 0 ? at : facts[2];
            facts[5]++;
            int units = Math.min(1 + height / 5, sand[at]);
            boolean out = wave.height() >= state.settings[0];
            for (int i = 0; i < units; i++) {
                facts[6] += moveOne(state, sand, at, out ? at + 1 : at - 1);
            }
            height /= 2;
            if (height == 0) {
                facts[3] = at;
                facts[4] = 2;
                return facts;
            }
        }
        return facts;
    }

    private static int moveOne(State state, int[] sand, int from, int to) {
        if (to == 20) {
            state.totals[1]++;
        } else if (to == -1) {
            state.totals[2]++;
        } else if (sand[to] == 99) {
            return 0;
        } else {
            sand[to]++;
        }
        sand[from]--;
        return 1;
    }

    private boolean bar(int row, int cell, int level) {
        int[] sand = now.sand[row];
        return in(cell, 1, 18) && level > sand[cell] && sand[cell] > sand[cell - 1] && sand[cell] > sand[cell + 1];
    }

    private boolean gap(int row, int cell, int level) {
        if (!in(cell, 1, 18) || level <= now.sand[row][cell] || bar(row, cell, level)) {
            return false;
        }
        for (int other : new int[] {row - 1, row + 1}) {
            if (in(other, 0, 3) && bar(other, cell, level)
                    && now.sand[other][cell] - now.sand[row][cell] >= now.settings[2]) {
                return true;
            }
        }
        return false;
    }

    private int follow(int level) {
        List<int[]> gaps = new ArrayList<>();
        for (int row = 0; row < 4; row++) {
            for (int cell = 0; cell < 20; cell++) {
                if (gap(row, cell, level)) {
                    gaps.add(new int[] {row, cell});
                }
            }
        }
        int scoured = 0;
        for (int[] gap : gaps) {
            int[] sand = now.sand[gap[0]];
            if (sand[gap[1]] > 0 && sand[gap[1] + 1] < 99) {
                sand[gap[1]]--;
                sand[gap[1] + 1]++;
                scoured++;
            }
        }
        int slumped = 0;
        boolean changed = true;
        while (changed) {
            changed = false;
            for (int[] sand : now.sand) {
                for (int cell = 0; cell < 19; cell++) {
                    if (sand[cell] > sand[cell + 1] + now.settings[3]) {
                        sand[cell]--;
                        sand[cell + 1]++;
                    } else if (sand[cell] < sand[cell + 1] - now.settings[3]) {
                        sand[cell]++;
                        sand[cell + 1]--;
                    } else {
                        continue;
                    }
                    slumped++;
                    changed = true;
                }
            }
        }
        now.totals[7] += scoured;
        now.totals[8] += slumped;
        return scoured + slumped;
    }

    int settle() {
        State before = now.copy();
        int moved = follow(now.level);
        if (moved == 0) {
            return NONE;
        }
        record(before);
        return moved;
    }

    int type(char character) {
        if (text.length() == 60) {
            return FULL;
        }
        text += character;
        return text.length();
    }

    int clearText() {
        int length = text.length();
        text = "";
        return length;
    }

    int undo() {
        if (history.isEmpty()) {
            return NONE;
        }
        now = history.removeLast();
        return history.size();
    }

    int keep() {
        snapshot = now.copy();
        return count(0);
    }

    int restore() {
        if (snapshot == null) {
            return NONE;
        }
        record(now);
        now = snapshot.copy();
        return count(0);
    }

    int cell(int row, int cell, int what) {
        if (!in(row, 0, 3) || !in(cell, 0, 19)) {
            return UNKNOWN;
        }
        int height = now.sand[row][cell];
        return switch (what) {
            case 0 -> height;
            case 1 -> now.level - height;
            case 2 -> bar(row, cell, now.level) ? 1 : 0;
            case 3 -> gap(row, cell, now.level) ? 1 : 0;
            case 4 -> height - (60 - 3 * cell);
            default -> BAD_VALUE;
        };
    }

    int row(int row, int what) {
        if (!in(row, 0, 3)) {
            return UNKNOWN;
        }
        int[] answers = {0, 0, 0, NONE, 0, 0, NONE};
        int[] sand = now.sand[row];
        for (int cell = 0; cell < 20; cell++) {
            answers[0] += sand[cell];
            answers[2] += cell(row, cell, 3);
            if (now.level <= sand[cell]) {
                answers[3] = cell;
            }
            if (cell < 19) {
                answers[4] = Math.max(answers[4], Math.max(sand[cell] - sand[cell + 1], sand[cell + 1] - sand[cell]));
            }
            if (bar(row, cell, now.level)) {
                answers[1]++;
                answers[5] += (int) Math.pow(2, cell);
                if (answers[6] == NONE || sand[cell] > sand[answers[6]]) {
                    answers[6] = cell;
                }
            }
        }
        return in(what, 0, 6) ? answers[what] : BAD_VALUE;
    }

    int waiting(int place, boolean height) {
        if (place < 0) {
            return BAD_VALUE;
        }
        if (place >= now.waiting.size()) {
            return NONE;
        }
        Wave wave = now.waiting.get(place);
        return height ? wave.height() : wave.row();
    }

    int ended(int place, int what) {
        if (place < 0 || !in(what, 0, 6)) {
            return BAD_VALUE;
        }
        return place < now.ended.size() ? now.ended.get(place)[what] : NONE;
    }

    int would(int row, int height, int what) {
        if (!in(row, 0, 3)) {
            return UNKNOWN;
        }
        if (!in(height, 1, 20) || !in(what, 2, 6)) {
            return BAD_VALUE;
        }
        return go(now.copy(), new Wave(row, height), now.level)[what];
    }

    int sand(int from, int to) {
        if (!in(from, 0, 19) || !in(to, 0, 19)) {
            return UNKNOWN;
        }
        if (to < from) {
            return BAD_VALUE;
        }
        int sum = 0;
        for (int[] sand : now.sand) {
            for (int cell = from; cell <= to; cell++) {
                sum += sand[cell];
            }
        }
        return sum;
    }

    int count(int what) {
        if (in(what, 1, 8)) {
            return now.totals[what];
        }
        if (in(what, 11, 14)) {
            return now.settings[what - 11];
        }
        int bars = 0;
        int gaps = 0;
        int dry = 0;
        for (int row = 0; row < 4; row++) {
            bars += row(row, 1);
            gaps += row(row, 2);
            for (int height : now.sand[row]) {
                dry += height >= now.level ? 1 : 0;
            }
        }
        return switch (what) {
            case 0 -> sand(0, 19);
            case 9 -> now.waiting.size();
            case 10 -> now.level;
            case 15 -> bars;
            case 16 -> gaps;
            case 17 -> dry;
            case 18 -> history.size();
            case 19 -> text.length();
            default -> BAD_VALUE;
        };
    }
}
