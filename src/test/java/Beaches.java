import java.util.ArrayList;
import java.util.List;

/** What several tests do with a beach. */
final class Beaches {
    private Beaches() {
    }

    /** Types a text behind the text that is there. */
    static void write(BeachBars x, String text) {
        for (char sign : text.toCharArray()) {
            x.type(sign);
        }
    }

    /** Puts this text in place of the text that is there, and its waves behind the row. */
    static int waves(BeachBars x, String text) {
        x.clearText();
        write(x, text);
        return x.waveAll();
    }

    /** Gives a row these heights, from the cell 'from' on. */
    static void shape(BeachBars x, int row, int from, int... heights) {
        for (int i = 0; i < heights.length; i++) {
            x.dump(row, from + i, heights[i]);
        }
    }

    /** Looks whether a row has these heights, from the cell 'from' on. */
    static void heights(Check check, BeachBars x, int row, int from, int... heights) {
        for (int i = 0; i < heights.length; i++) {
            check.due("cell(" + row + ", " + (from + i) + ", 0)", x.cell(row, from + i, 0), heights[i]);
        }
    }

    /** What is told of the state (not of the text, the history and the snapshot). */
    static List<Integer> state(BeachBars x) {
        List<Integer> seen = new ArrayList<>();
        for (int row = 0; row < 4; row++) {
            for (int cell = 0; cell < 20; cell++) {
                seen.add(x.cell(row, cell, 0));
            }
        }
        for (int what = 1; what <= 17; what++) {
            seen.add(x.count(what));
        }
        for (int place = 0; place < x.count(9); place++) {
            seen.add(x.waiting(place, true));
            seen.add(x.waiting(place, false));
        }
        for (int place = 0; x.ended(place, 0) != BeachBars.NONE; place++) {
            for (int what = 0; what <= 6; what++) {
                seen.add(x.ended(place, what));
            }
        }
        return seen;
    }

    /** The state, the length of the text and that of the history. */
    static List<Integer> all(BeachBars x) {
        List<Integer> seen = state(x);
        seen.add(x.count(18));
        seen.add(x.count(19));
        return seen;
    }
}
