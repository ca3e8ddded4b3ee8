import java.util.List;

/** wave, waveAll and strike. */
final class Promise05To07Test {
    private static final int UNKNOWN = -1001;
    private static final int BAD_VALUE = -1002;
    private static final int FULL = -1003;
    private static final int NONE = -1005;
    private static final int MIN = Integer.MIN_VALUE;
    private static final int MAX = Integer.MAX_VALUE;

    private Promise05To07Test() {
    }

    static void test(Check check) {
        wave(check);
        waveRefuses(check);
        waveAll(check);
        waveAllFillsUp(check);
        faults(check);
        texts(check);
        strike(check);
        strikeRefuses(check);
    }

    private static void waits(Check check, BeachBars x, int... rowsAndHeights) {
        check.due("count(9)", x.count(9), rowsAndHeights.length / 2);
        for (int i = 0; i < rowsAndHeights.length / 2; i++) {
            check.due("waiting(" + i + ", false)", x.waiting(i, false), rowsAndHeights[2 * i]);
            check.due("waiting(" + i + ", true)", x.waiting(i, true), rowsAndHeights[2 * i + 1]);
        }
        check.due("waiting behind the last", x.waiting(rowsAndHeights.length / 2, true), NONE);
    }

    private static void wave(Check check) {
        check.begin("promise 5, wave");
        BeachBars x = new BeachBars();
        check.due("wave(0, 1)", x.wave(0, 1), 1);
        check.due("wave(3, 20)", x.wave(3, 20), 2);
        check.due("wave(3, 20)", x.wave(3, 20), 3);
        waits(check, x, 0, 1, 3, 20, 3, 20);
        check.due("count(18)", x.count(18), 3);
        check.due("undo()", x.undo(), 2);
        waits(check, x, 0, 1, 3, 20);
    }

    private static void waveRefuses(Check check) {
        check.begin("promise 5, wave refuses");
        BeachBars x = new BeachBars();
        for (int i = 1; i <= 24; i++) {
            check.due("wave(1, 7)", x.wave(1, 7), i);
        }
        List<Integer> full = Beaches.all(x);
        for (int row : new int[] {-1, 4, MIN, MAX}) {
            check.due("wave(" + row + ", 0)", x.wave(row, 0), UNKNOWN);
        }
        for (int height : new int[] {0, 21, -1, MIN, MAX}) {
            check.due("wave(0, " + height + ")", x.wave(0, height), BAD_VALUE);
        }
        check.due("wave(0, 1)", x.wave(0, 1), FULL);
        check.holds("nothing is changed", Beaches.all(x).equals(full));
        check.due("run(0)", x.run(0) >= 0 ? 1 : 0, 1);
        check.due("wave(0, 1)", x.wave(0, 1), 1);
    }

    private static void waveAll(Check check) {
        check.begin("promise 6, waveAll");
        BeachBars x = new BeachBars();
        x.wave(2, 2);
        check.due("waveAll()", Beaches.waves(x, "0h5,3h20x2,1h10"), 4);
        waits(check, x, 2, 2, 0, 5, 3, 20, 3, 20, 1, 10);
        check.due("count(19)", x.count(19), 15);
        check.due("count(18)", x.count(18), 2);
        check.due("waveAll()", x.waveAll(), 4);
        check.due("count(9)", x.count(9), 9);
        check.due("undo()", x.undo(), 2);
        check.due("undo()", x.undo(), 1);
        waits(check, x, 2, 2);
        check.due("count(19)", x.count(19), 15);
    }

    private static void waveAllFillsUp(Check check) {
        check.begin("promise 6, waveAll and the room");
        BeachBars x = new BeachBars();
        check.due("24 waves", Beaches.waves(x, "0h5x9,1h6x9,2h7x6"), 24);
        check.due("waiting(23, true)", x.waiting(23, true), 7);
        check.due("waiting(24, true)", x.waiting(24, true), NONE);
        List<Integer> full = Beaches.state(x);
        check.due("1 more", Beaches.waves(x, "3h1"), FULL);
        check.due("a fault first", Beaches.waves(x, "3h1x"), -2004);
        check.holds("nothing is changed", Beaches.state(x).equals(full));
        check.due("count(18)", x.count(18), 1);
        BeachBars y = new BeachBars();
        check.due("25 waves", Beaches.waves(y, "0h5x9,1h6x9,2h7x7"), FULL);
        check.due("90 waves", Beaches.waves(y, "0h5x9,0h5x9,0h5x9,0h5x9,0h5x9,0h5x9,0h5x9,0h5x9,0h5x9,0h5x9"), FULL);
        check.due("count(9)", y.count(9), 0);
        check.due("count(18)", y.count(18), 0);
        check.due("15 waves", Beaches.waves(y, "0h1,1h2,2h3,3h4,0h5,1h6,2h7,3h8,0h9,1h1,2h1,3h1,0h1,1h1,2h7"), 15);
        check.due("waiting(14, true)", y.waiting(14, true), 7);
        check.due("9 more", Beaches.waves(y, "3h20x9"), 24 - 15);
        check.due("count(9)", y.count(9), 24);
    }

    private static void fault(Check check, String text, int want) {
        BeachBars x = new BeachBars();
        check.due("waveAll() of " + text, Beaches.waves(x, text), -2000 - want);
        check.due("count(9) after " + text, x.count(9), 0);
        check.due("count(18) after " + text, x.count(18), 0);
        check.due("count(19) after " + text, x.count(19), text.length());
    }

    private static void faults(Check check) {
        check.begin("promise 6, the faults of a text");
        fault(check, "", 0);
        fault(check, "4", 0);
        fault(check, "4h5", 0);
        fault(check, "h", 0);
        fault(check, ",", 0);
        fault(check, " 0h5", 0);
        fault(check, "-", 0);
        fault(check, "0", 1);
        fault(check, "00", 1);
        fault(check, "0H5", 1);
        fault(check, "0x5", 1);
        fault(check, "0h", 2);
        fault(check, "0h0", 2);
        fault(check, "0h05", 2);
        fault(check, "0hx2", 2);
        fault(check, "0h,", 2);
        fault(check, "0h21", 3);
        fault(check, "0h30", 3);
        fault(check, "0h99", 3);
        fault(check, "0h5h", 3);
        fault(check, "0h5 ", 3);
        fault(check, "0h5X2", 3);
        fault(check, "0h100", 4);
        fault(check, "0h200", 4);
        fault(check, "0h5x", 4);
        fault(check, "0h5x0", 4);
        fault(check, "0h5x1", 4);
        fault(check, "0h5x,", 4);
        fault(check, "0h5,", 4);
        fault(check, "0h5,,", 4);
        fault(check, "0h5,4", 4);
        fault(check, "0h5x22", 5);
        fault(check, "0h5x2x2", 5);
        fault(check, "0h5x2h", 5);
        fault(check, "0h20x10", 5);
        fault(check, "0h5x2,", 6);
        fault(check, "0h5x2,1h", 8);
        fault(check, "0h5\u0100", 3);
        fault(check, "0h5\uff10", 3);
        fault(check, "\u0130h5", 0);
        fault(check, "0h5x9,0h5x9,0h5x9,0h5x9,0h5x9,0h5x9,0h5x9,0h5x9,0h5x9,0h5x9,".substring(0, 60), 60);
    }

    private static void text(Check check, String text, int... rowsAndHeights) {
        BeachBars x = new BeachBars();
        check.due("waveAll() of " + text, Beaches.waves(x, text), rowsAndHeights.length / 2);
        waits(check, x, rowsAndHeights);
        check.due("count(18) after " + text, x.count(18), 1);
    }

    private static void texts(Check check) {
        check.begin("promise 6, texts without a fault");
        for (int height = 1; height <= 20; height++) {
            text(check, "3h" + height, 3, height);
        }
        text(check, "0h1x2", 0, 1, 0, 1);
        text(check, "1h19x3,2h20", 1, 19, 1, 19, 1, 19, 2, 20);
        text(check, "2h2,2h2", 2, 2, 2, 2);
        for (int times = 2; times <= 9; times++) {
            BeachBars x = new BeachBars();
            check.due("waveAll() of 1h12x" + times, Beaches.waves(x, "1h12x" + times), times);
            check.due("waiting the last", x.waiting(times - 1, true), 12);
        }
    }

    private static void strike(Check check) {
        check.begin("promise 7, strike");
        BeachBars x = new BeachBars();
        Beaches.waves(x, "0h5,1h9,2h5,3h20,0h1,1h6");
        check.due("strike(7, 8)", x.strike(7, 8), NONE);
        check.due("count(18)", x.count(18), 1);
        check.due("strike(5, 6)", x.strike(5, 6), 3);
        waits(check, x, 1, 9, 3, 20, 0, 1);
        check.due("strike(5, 6)", x.strike(5, 6), NONE);
        check.due("strike(9, 9)", x.strike(9, 9), 1);
        waits(check, x, 3, 20, 0, 1);
        check.due("count(18)", x.count(18), 3);
        check.due("strike(1, 20)", x.strike(1, 20), 2);
        waits(check, x);
        check.due("strike(1, 20)", x.strike(1, 20), NONE);
        check.due("undo()", x.undo(), 3);
        check.due("undo()", x.undo(), 2);
        check.due("undo()", x.undo(), 1);
        waits(check, x, 0, 5, 1, 9, 2, 5, 3, 20, 0, 1, 1, 6);
        check.due("count(5)", x.count(5), 0);
        check.due("strike(5, 5)", x.strike(5, 5), 2);
        check.due("strike(9, 9), the first", x.strike(9, 9), 1);
        check.due("strike(6, 6), the last", x.strike(6, 6), 1);
        waits(check, x, 3, 20, 0, 1);
    }

    private static void strikeRefuses(Check check) {
        check.begin("promise 7, strike refuses");
        BeachBars x = new BeachBars();
        x.wave(0, 5);
        List<Integer> first = Beaches.all(x);
        for (int wrong : new int[] {0, 21, -1, MIN, MAX}) {
            check.due("strike(" + wrong + ", 20)", x.strike(wrong, 20), BAD_VALUE);
            check.due("strike(1, " + wrong + ")", x.strike(1, wrong), BAD_VALUE);
        }
        check.due("strike(6, 5)", x.strike(6, 5), BAD_VALUE);
        check.due("strike(20, 1)", x.strike(20, 1), BAD_VALUE);
        check.due("strike(6, 6)", x.strike(6, 6), NONE);
        check.holds("nothing is changed", Beaches.all(x).equals(first));
    }
}
