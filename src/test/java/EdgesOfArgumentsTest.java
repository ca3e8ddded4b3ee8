import java.util.function.IntUnaryOperator;

/** Every range of the document from below its least value to above its greatest, and the ends of int. */
final class EdgesOfArgumentsTest {
    private static final int UNKNOWN = -1001;
    private static final int BAD_VALUE = -1002;
    private static final int NONE = -1005;
    private static final int[] FAR = {Integer.MIN_VALUE, Integer.MIN_VALUE + 1, -2000, -100, 100, 1000,
        Integer.MAX_VALUE - 1, Integer.MAX_VALUE};

    private EdgesOfArgumentsTest() {
    }

    static void test(Check check) {
        dumpRowsAndCells(check);
        dumpHeights(check);
        levels(check);
        settings(check);
        waveRowsAndHeights(check);
        strikeHeights(check);
        surges(check);
        cellRowsAndCells(check);
        cellWhats(check);
        rowRows(check);
        rowWhats(check);
        places(check);
        endedWhats(check);
        wouldRowsAndHeights(check);
        wouldWhats(check);
        sandCells(check);
        countWhats(check);
    }

    private static boolean in(int value, int least, int most) {
        return value >= least && value <= most;
    }

    /** Asks for all values around a range, and for far ones: those outside are refused by 'error', no other is. */
    private static void range(Check check, String call, IntUnaryOperator answer, int least, int most, int error) {
        for (int value = least - 3; value <= most + 3; value++) {
            boolean refused = answer.applyAsInt(value) == error;
            check.holds(call + " with " + value, refused != in(value, least, most));
        }
        for (int value : FAR) {
            if (!in(value, least, most)) {
                check.due(call + " with " + value, answer.applyAsInt(value), error);
            }
        }
    }

    private static void dumpRowsAndCells(Check check) {
        check.begin("promise 2, rows 0 to 3 and cells 0 to 19");
        BeachBars x = new BeachBars();
        for (int row = -1; row <= 4; row++) {
            for (int cell = -1; cell <= 20; cell++) {
                boolean known = in(row, 0, 3) && in(cell, 0, 19);
                check.due("dump(" + row + ", " + cell + ", 99)", x.dump(row, cell, 99),
                        known ? 60 - 3 * cell : UNKNOWN);
            }
        }
        check.due("count(0)", x.count(0), 80 * 99);
        range(check, "dump(.., 0, 50)", row -> new BeachBars().dump(row, 0, 50), 0, 3, UNKNOWN);
        range(check, "dump(0, .., 50)", cell -> new BeachBars().dump(0, cell, 50), 0, 19, UNKNOWN);
    }

    private static void dumpHeights(Check check) {
        check.begin("promise 2, heights 0 to 99");
        range(check, "dump(3, 19, ..)", height -> new BeachBars().dump(3, 19, height), 0, 99, BAD_VALUE);
        for (int height = 0; height <= 99; height++) {
            BeachBars x = new BeachBars();
            check.due("dump(2, 7, " + height + ")", x.dump(2, 7, height), height == 39 ? NONE : 39);
            check.due("cell(2, 7, 0)", x.cell(2, 7, 0), height);
            check.due("count(3)", x.count(3), Math.max(0, height - 39));
            check.due("count(4)", x.count(4), Math.max(0, 39 - height));
            check.due("count(18)", x.count(18), height == 39 ? 0 : 1);
        }
    }

    private static void levels(Check check) {
        check.begin("promise 3, levels 20 to 70");
        range(check, "setLevel(..)", level -> new BeachBars().setLevel(level), 20, 70, BAD_VALUE);
        for (int level = 20; level <= 70; level++) {
            BeachBars x = new BeachBars();
            check.due("setLevel(" + level + ")", x.setLevel(level), level == 40 ? NONE : 40);
            check.due("count(10)", x.count(10), level);
            check.due("setLevel(" + level + ") again", x.setLevel(level), NONE);
            check.due("count(18)", x.count(18), level == 40 ? 0 : 1);
        }
    }

    private static void settings(Check check) {
        check.begin("promise 4, the settings and their ranges");
        int[] first = {8, 0, 3, 12};
        int[] least = {1, 0, 1, 4};
        int[] most = {20, 2, 20, 30};
        range(check, "set(.., 1)", which -> new BeachBars().set(which, which == 3 ? 4 : 1), 0, 3, BAD_VALUE);
        for (int which = 0; which < 4; which++) {
            int number = which;
            range(check, "set(" + which + ", ..)", value -> new BeachBars().set(number, value),
                    least[which], most[which], BAD_VALUE);
            for (int value = least[which]; value <= most[which]; value++) {
                BeachBars x = new BeachBars();
                boolean same = value == first[which];
                check.due("set(" + which + ", " + value + ")", x.set(which, value), same ? NONE : first[which]);
                for (int other = 0; other < 4; other++) {
                    check.due("count(" + (11 + other) + ")", x.count(11 + other),
                            other == which ? value : first[other]);
                }
                check.due("count(18)", x.count(18), same ? 0 : 1);
            }
        }
    }

    private static void waveRowsAndHeights(Check check) {
        check.begin("promise 5, rows 0 to 3 and heights 1 to 20");
        range(check, "wave(.., 5)", row -> new BeachBars().wave(row, 5), 0, 3, UNKNOWN);
        range(check, "wave(0, ..)", height -> new BeachBars().wave(0, height), 1, 20, BAD_VALUE);
        for (int row = -1; row <= 4; row++) {
            for (int height = 0; height <= 21; height++) {
                BeachBars x = new BeachBars();
                int due = !in(row, 0, 3) ? UNKNOWN : !in(height, 1, 20) ? BAD_VALUE : 1;
                check.due("wave(" + row + ", " + height + ")", x.wave(row, height), due);
                check.due("waiting(0, false)", x.waiting(0, false), due == 1 ? row : NONE);
                check.due("waiting(0, true)", x.waiting(0, true), due == 1 ? height : NONE);
            }
        }
    }

    private static void strikeHeights(Check check) {
        check.begin("promise 7, the least and the greatest height");
        range(check, "strike(.., 20)", least -> new BeachBars().strike(least, 20), 1, 20, BAD_VALUE);
        range(check, "strike(1, ..)", most -> new BeachBars().strike(1, most), 1, 20, BAD_VALUE);
        for (int least = 0; least <= 21; least++) {
            for (int most = 0; most <= 21; most++) {
                BeachBars x = new BeachBars();
                x.wave(0, 1);
                x.wave(1, 10);
                x.wave(2, 20);
                boolean good = in(least, 1, 20) && in(most, least, 20);
                int struck = (in(1, least, most) ? 1 : 0) + (in(10, least, most) ? 1 : 0) + (in(20, least, most) ? 1 : 0);
                check.due("strike(" + least + ", " + most + ")", x.strike(least, most),
                        !good ? BAD_VALUE : struck == 0 ? NONE : struck);
                check.due("count(9)", x.count(9), good ? 3 - struck : 3);
                check.due("count(18)", x.count(18), good && struck > 0 ? 4 : 3);
            }
        }
    }

    private static int runOnce(int surge) {
        BeachBars x = new BeachBars();
        x.wave(0, 5);
        return x.run(surge);
    }

    private static void surges(Check check) {
        check.begin("promise 8, surges 0 to 30");
        range(check, "run(..)", EdgesOfArgumentsTest::runOnce, 0, 30, BAD_VALUE);
        range(check, "run(..) without waves", surge -> new BeachBars().run(surge) == NONE ? 0 : BAD_VALUE,
                0, 30, BAD_VALUE);
        for (int surge = 0; surge <= 30; surge++) {
            BeachBars x = new BeachBars();
            x.wave(0, 1);
            check.due("run(" + surge + ")", x.run(surge), 0);
            check.due("ended(0, 3) with " + surge, x.ended(0, 3), surge > 20 ? -1 : (20 - surge) / 3);
            check.due("ended(0, 4) with " + surge, x.ended(0, 4), surge > 20 ? 3 : 1);
        }
    }

    private static void cellRowsAndCells(Check check) {
        check.begin("promise 15, rows 0 to 3 and cells 0 to 19");
        BeachBars x = new BeachBars();
        for (int row = -1; row <= 4; row++) {
            for (int cell = -1; cell <= 20; cell++) {
                boolean known = in(row, 0, 3) && in(cell, 0, 19);
                check.due("cell(" + row + ", " + cell + ", 0)", x.cell(row, cell, 0),
                        known ? 60 - 3 * cell : UNKNOWN);
                check.due("cell(" + row + ", " + cell + ", 5)", x.cell(row, cell, 5), known ? BAD_VALUE : UNKNOWN);
            }
        }
        range(check, "cell(.., 0, 0)", row -> new BeachBars().cell(row, 0, 0), 0, 3, UNKNOWN);
        range(check, "cell(0, .., 0)", cell -> new BeachBars().cell(0, cell, 0), 0, 19, UNKNOWN);
        range(check, "cell(.., 1, 3)", row -> new BeachBars().cell(row, 1, 3), 0, 3, UNKNOWN);
        range(check, "cell(0, .., 2)", cell -> new BeachBars().cell(0, cell, 2), 0, 19, UNKNOWN);
    }

    private static void cellWhats(Check check) {
        check.begin("promise 15, what is told of a cell: 0 to 4");
        range(check, "cell(0, 0, ..)", what -> new BeachBars().cell(0, 0, what), 0, 4, BAD_VALUE);
        range(check, "cell(3, 19, ..)", what -> new BeachBars().cell(3, 19, what), 0, 4, BAD_VALUE);
    }

    private static void rowRows(Check check) {
        check.begin("promise 16, rows 0 to 3");
        for (int what = 0; what <= 6; what++) {
            int number = what;
            range(check, "row(.., " + what + ")", row -> new BeachBars().row(row, number), 0, 3, UNKNOWN);
        }
        range(check, "row(.., 7)", row -> new BeachBars().row(row, 7), 0, 3, UNKNOWN);
    }

    private static void rowWhats(Check check) {
        check.begin("promise 16, what is told of a row: 0 to 6");
        for (int row = 0; row <= 3; row++) {
            int number = row;
            range(check, "row(" + row + ", ..)", what -> new BeachBars().row(number, what), 0, 6, BAD_VALUE);
        }
    }

    private static BeachBars withThreeOfEach() {
        BeachBars x = new BeachBars();
        Beaches.waves(x, "0h1x3");
        x.run(0);
        x.wave(1, 2);
        x.wave(2, 3);
        x.wave(3, 4);
        return x;
    }

    private static void places(Check check) {
        check.begin("promises 17 and 18, places from 0 up to the last");
        BeachBars x = withThreeOfEach();
        for (int place = -3; place <= 30; place++) {
            int due = place < 0 ? BAD_VALUE : NONE;
            boolean there = in(place, 0, 2);
            check.due("waiting(" + place + ", false)", x.waiting(place, false), there ? 1 + place : due);
            check.due("waiting(" + place + ", true)", x.waiting(place, true), there ? 2 + place : due);
            check.due("ended(" + place + ", 1)", x.ended(place, 1), there ? 1 : due);
        }
        for (int place : FAR) {
            int due = place < 0 ? BAD_VALUE : NONE;
            check.due("waiting(" + place + ", false)", x.waiting(place, false), due);
            check.due("waiting(" + place + ", true)", x.waiting(place, true), due);
            check.due("ended(" + place + ", 1)", x.ended(place, 1), due);
        }
    }

    private static void endedWhats(Check check) {
        check.begin("promise 18, what is told of a wave that ran: 0 to 6");
        BeachBars x = withThreeOfEach();
        range(check, "ended(0, ..)", what -> x.ended(0, what), 0, 6, BAD_VALUE);
        range(check, "ended(3, ..), where there is none", what -> x.ended(3, what), 0, 6, BAD_VALUE);
        BeachBars y = new BeachBars();
        range(check, "ended(0, ..) of a new object", what -> y.ended(0, what), 0, 6, BAD_VALUE);
        for (int what = -1; what <= 7; what++) {
            check.due("ended(-1, " + what + ")", x.ended(-1, what), BAD_VALUE);
        }
    }

    private static void wouldRowsAndHeights(Check check) {
        check.begin("promise 19, rows 0 to 3 and heights 1 to 20");
        BeachBars x = new BeachBars();
        for (int row = -1; row <= 4; row++) {
            for (int height = 0; height <= 21; height++) {
                int due = !in(row, 0, 3) ? UNKNOWN : !in(height, 1, 20) ? BAD_VALUE : 1;
                check.due("would(" + row + ", " + height + ", 4)", x.would(row, height, 4), due);
            }
        }
        range(check, "would(.., 5, 4)", row -> x.would(row, 5, 4), 0, 3, UNKNOWN);
        range(check, "would(0, .., 4)", height -> x.would(0, height, 4), 1, 20, BAD_VALUE);
    }

    private static void wouldWhats(Check check) {
        check.begin("promise 19, what a wave would do: 2 to 6");
        range(check, "would(0, 20, ..)", what -> new BeachBars().would(0, 20, what), 2, 6, BAD_VALUE);
        range(check, "would(3, 1, ..)", what -> new BeachBars().would(3, 1, what), 2, 6, BAD_VALUE);
    }

    private static void sandCells(Check check) {
        check.begin("promise 20, cells 0 to 19, the second one not less");
        BeachBars x = new BeachBars();
        for (int from = -1; from <= 20; from++) {
            for (int to = -1; to <= 20; to++) {
                int due = 0;
                for (int cell = from; cell <= to; cell++) {
                    due += 4 * (60 - 3 * cell);
                }
                boolean known = in(from, 0, 19) && in(to, 0, 19);
                check.due("sand(" + from + ", " + to + ")", x.sand(from, to),
                        !known ? UNKNOWN : to < from ? BAD_VALUE : due);
            }
        }
        range(check, "sand(.., 19)", from -> new BeachBars().sand(from, 19), 0, 19, UNKNOWN);
        range(check, "sand(0, ..)", to -> new BeachBars().sand(0, to), 0, 19, UNKNOWN);
        range(check, "sand(19, ..)", to -> new BeachBars().sand(19, to), 0, 19, UNKNOWN);
    }

    private static void countWhats(Check check) {
        check.begin("promise 21, what is counted: 0 to 19");
        range(check, "count(..)", what -> new BeachBars().count(what), 0, 19, BAD_VALUE);
    }
}
