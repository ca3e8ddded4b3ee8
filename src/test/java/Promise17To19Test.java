import java.util.List;

/** waiting, ended and would. */
final class Promise17To19Test {
    private static final int UNKNOWN = -1001;
    private static final int BAD_VALUE = -1002;
    private static final int NONE = -1005;
    private static final int MIN = Integer.MIN_VALUE;
    private static final int MAX = Integer.MAX_VALUE;

    private Promise17To19Test() {
    }

    static void test(Check check) {
        waiting(check);
        ended(check);
        endedStays(check);
        would(check);
        wouldIsWhatRunDoes(check);
        wouldRefuses(check);
    }

    private static void waiting(Check check) {
        check.begin("promise 17, waiting");
        BeachBars x = new BeachBars();
        for (int place : new int[] {-1, MIN}) {
            check.due("waiting(" + place + ", true)", x.waiting(place, true), BAD_VALUE);
            check.due("waiting(" + place + ", false)", x.waiting(place, false), BAD_VALUE);
        }
        for (int place : new int[] {0, 1, 23, 24, MAX}) {
            check.due("waiting(" + place + ", true)", x.waiting(place, true), NONE);
            check.due("waiting(" + place + ", false)", x.waiting(place, false), NONE);
        }
        x.set(1, 1);
        x.wave(3, 4);
        x.wave(2, 18);
        check.due("waiting(0, true)", x.waiting(0, true), 4);
        check.due("waiting(0, false)", x.waiting(0, false), 3);
        check.due("waiting(1, true)", x.waiting(1, true), 18);
        check.due("waiting(1, false)", x.waiting(1, false), 2);
        check.due("waiting(2, true)", x.waiting(2, true), NONE);
        x.run(0);
        check.due("waiting(0, true)", x.waiting(0, true), NONE);
    }

    private static void ended(Check check) {
        check.begin("promise 18, ended");
        BeachBars x = new BeachBars();
        check.due("ended(-1, 0)", x.ended(-1, 0), BAD_VALUE);
        check.due("ended(0, 7)", x.ended(0, 7), BAD_VALUE);
        check.due("ended(0, 0)", x.ended(0, 0), NONE);
        x.setLevel(60);
        Beaches.waves(x, "2h1,3h20,0h5x2");
        check.due("ended(0, 0) before they run", x.ended(0, 0), NONE);
        check.due("run(0)", x.run(0), 4);
        int[][] facts = {
            {2, 1, NONE, 0, 1, 0, 0},
            {3, 20, 6, 0, 1, 3, 10},
            {0, 5, 1, 0, 1, 1, 2},
            {0, 5, NONE, 0, 1, 0, 0}};
        for (int place = 0; place < 4; place++) {
            for (int what = 0; what <= 6; what++) {
                check.due("ended(" + place + ", " + what + ")", x.ended(place, what), facts[place][what]);
            }
        }
        for (int place : new int[] {4, 24, MAX}) {
            check.due("ended(" + place + ", 0)", x.ended(place, 0), NONE);
            check.due("ended(" + place + ", 7)", x.ended(place, 7), BAD_VALUE);
        }
        for (int what : new int[] {-1, 7, MIN, MAX}) {
            check.due("ended(0, " + what + ")", x.ended(0, what), BAD_VALUE);
        }
        for (int place : new int[] {-1, MIN}) {
            check.due("ended(" + place + ", 0)", x.ended(place, 0), BAD_VALUE);
        }
    }

    private static void endedStays(Check check) {
        check.begin("promise 18, what is told stays until waves run again");
        BeachBars x = new BeachBars();
        Beaches.waves(x, "1h3x9,1h2x9,1h4x6");
        x.run(0);
        check.due("ended(23, 1)", x.ended(23, 1), 4);
        check.due("ended(24, 1)", x.ended(24, 1), NONE);
        x.dump(1, 5, 3);
        x.settle();
        x.wave(2, 6);
        check.due("run(31)", x.run(31), BAD_VALUE);
        check.due("ended(23, 1)", x.ended(23, 1), 4);
        x.run(0);
        check.due("ended(0, 0)", x.ended(0, 0), 2);
        check.due("ended(1, 0)", x.ended(1, 0), NONE);
        check.due("ended(23, 1)", x.ended(23, 1), NONE);
        check.due("undo()", x.undo(), 3);
        check.due("ended(23, 1)", x.ended(23, 1), 4);
    }

    private static void would(Check check) {
        check.begin("promise 19, would");
        BeachBars x = new BeachBars();
        x.wave(0, 20);
        List<Integer> first = Beaches.all(x);
        int[] low = {8, 7, 1, 1, 2};
        int[] high = {9, 6, 1, 2, 3};
        for (int what = 2; what <= 6; what++) {
            check.due("would(3, 7, " + what + ")", x.would(3, 7, what), low[what - 2]);
            check.due("would(0, 8, " + what + ")", x.would(0, 8, what), high[what - 2]);
        }
        check.due("would(0, 1, 2)", x.would(0, 1, 2), NONE);
        check.due("would(0, 1, 3)", x.would(0, 1, 3), 6);
        check.holds("nothing is changed", Beaches.all(x).equals(first));
        x.setLevel(70);
        check.due("would(0, 5, 3)", x.would(0, 5, 3), -1);
        check.due("would(0, 5, 4)", x.would(0, 5, 4), 3);
        x.set(0, 1);
        x.setLevel(40);
        check.due("would(0, 7, 6)", x.would(0, 7, 6), 3);
        check.due("would(0, 7, 5)", x.would(0, 7, 5), 2);
    }

    private static void wouldIsWhatRunDoes(Check check) {
        check.begin("promise 19, would is what run does");
        for (int height = 1; height <= 20; height++) {
            BeachBars x = new BeachBars();
            Beaches.shape(x, 1, 9, 20, 38, 22, 35, 10, 33, 30, 12, 28);
            int[] told = new int[7];
            for (int what = 2; what <= 6; what++) {
                told[what] = x.would(1, height, what);
            }
            x.wave(1, height);
            x.run(0);
            for (int what = 2; what <= 6; what++) {
                check.due("ended(0, " + what + ") at " + height, x.ended(0, what), told[what]);
            }
        }
    }

    private static void wouldRefuses(Check check) {
        check.begin("promise 19, would refuses");
        BeachBars x = new BeachBars();
        for (int row : new int[] {-1, 4, MIN, MAX}) {
            check.due("would(" + row + ", 0, 0)", x.would(row, 0, 0), UNKNOWN);
        }
        for (int height : new int[] {0, 21, -1, MIN, MAX}) {
            check.due("would(0, " + height + ", 2)", x.would(0, height, 2), BAD_VALUE);
        }
        for (int what : new int[] {-1, 0, 1, 7, MIN, MAX}) {
            check.due("would(0, 5, " + what + ")", x.would(0, 5, what), BAD_VALUE);
        }
    }
}
