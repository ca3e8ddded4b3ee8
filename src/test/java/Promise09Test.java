import java.util.List;

/** settle: rips and slumping without waves. */
final class Promise09Test {
    private static final int NONE = -1005;

    private Promise09Test() {
    }

    static void test(Check check) {
        atRest(check);
        gapsAreFoundFirst(check);
        neighboursOfGaps(check);
        gapWithoutSand(check);
        gapIsFilledBeforeItGives(check);
        gapBeforeFullCell(check);
        slumpsBothWays(check);
        steepestDifferenceStands(check);
        nothingIsLost(check);
        isAnAct(check);
    }

    private static void atRest(Check check) {
        check.begin("promise 9, a beach at rest");
        BeachBars x = new BeachBars();
        x.wave(0, 20);
        List<Integer> first = Beaches.all(x);
        check.due("settle()", x.settle(), NONE);
        check.holds("nothing is changed", Beaches.all(x).equals(first));
    }

    private static void gapsAreFoundFirst(Check check) {
        check.begin("promise 9, gaps that follow one another");
        BeachBars x = new BeachBars();
        x.set(3, 30);
        x.dump(0, 12, 33);
        x.dump(2, 13, 33);
        check.due("count(16)", x.count(16), 3);
        check.due("settle()", x.settle(), 3);
        check.due("count(7)", x.count(7), 3);
        check.due("count(8)", x.count(8), 0);
        Beaches.heights(check, x, 1, 12, 23, 21, 19);
        Beaches.heights(check, x, 3, 12, 24, 20, 19);
        BeachBars y = new BeachBars();
        y.set(3, 30);
        Beaches.shape(y, 1, 12, 20, 20);
        Beaches.shape(y, 0, 12, 33, 20);
        check.due("a gap", y.cell(1, 12, 3), 1);
        check.due("no bar", y.cell(1, 13, 2), 0);
        check.due("no gap", y.cell(2, 13, 3), 0);
        y.dump(2, 13, 18);
        y.dump(2, 14, 16);
        check.due("settle()", y.settle(), 1);
        check.due("a bar now", y.cell(1, 13, 2), 1);
        check.due("a gap now", y.cell(2, 13, 3), 1);
        Beaches.heights(check, y, 2, 12, 24, 18, 16);
        check.due("settle()", y.settle(), 2);
        check.due("count(7)", y.count(7), 3);
        Beaches.heights(check, y, 0, 12, 33, 20, 18);
        Beaches.heights(check, y, 1, 12, 18, 22, 18);
        Beaches.heights(check, y, 2, 12, 24, 17, 17);
    }

    private static void neighboursOfGaps(Check check) {
        check.begin("promise 9, rows beside the first and the last");
        BeachBars x = new BeachBars();
        x.dump(0, 12, 29);
        x.dump(3, 15, 20);
        check.due("settle()", x.settle(), 2);
        Beaches.heights(check, x, 1, 12, 23, 22);
        Beaches.heights(check, x, 2, 15, 14, 13);
        Beaches.heights(check, x, 0, 12, 29, 21);
        Beaches.heights(check, x, 3, 15, 20, 12);
        Beaches.heights(check, x, 2, 12, 24, 21);
        Beaches.heights(check, x, 1, 15, 15, 12);
        BeachBars y = new BeachBars();
        y.set(3, 30);
        y.setLevel(70);
        y.dump(1, 1, 68);
        y.dump(2, 18, 10);
        check.due("settle()", y.settle(), 4);
        for (int row = 0; row <= 2; row += 2) {
            Beaches.heights(check, y, row, 0, 60, 56, 55);
        }
        for (int row = 1; row <= 3; row += 2) {
            Beaches.heights(check, y, row, 17, 9, 5, 4);
        }
        Beaches.heights(check, y, 1, 0, 60, 68, 54);
    }

    private static void gapWithoutSand(Check check) {
        check.begin("promise 9, a gap without sand");
        BeachBars x = new BeachBars();
        x.set(3, 30);
        x.dump(1, 12, 0);
        x.dump(0, 12, 28);
        x.dump(2, 12, 22);
        check.due("cell(1, 12, 3)", x.cell(1, 12, 3), 1);
        check.due("count(16)", x.count(16), 1);
        check.due("settle()", x.settle(), NONE);
        x.dump(1, 12, 1);
        check.due("settle()", x.settle(), 1);
        Beaches.heights(check, x, 1, 12, 0, 22);
    }

    private static void gapIsFilledBeforeItGives(Check check) {
        check.begin("promise 9, a gap is filled before it gives");
        BeachBars x = new BeachBars();
        x.set(3, 30);
        x.dump(1, 13, 0);
        x.dump(0, 12, 33);
        x.dump(2, 13, 25);
        check.due("cell(1, 12, 3)", x.cell(1, 12, 3), 1);
        check.due("cell(1, 13, 3)", x.cell(1, 13, 3), 1);
        check.due("cell(3, 13, 3)", x.cell(3, 13, 3), 1);
        check.due("settle()", x.settle(), 3);
        Beaches.heights(check, x, 1, 12, 23, 0, 19);
    }

    private static void gapBeforeFullCell(Check check) {
        check.begin("promise 9, a gap before a full cell");
        BeachBars x = new BeachBars();
        x.set(3, 30);
        Beaches.shape(x, 1, 12, 24, 99, 70);
        x.dump(0, 12, 33);
        check.due("cell(1, 12, 3)", x.cell(1, 12, 3), 1);
        check.holds("sand slumps", x.settle() > 0);
        check.due("count(7)", x.count(7), 0);
        BeachBars y = new BeachBars();
        y.set(3, 30);
        Beaches.shape(y, 1, 12, 24, 98, 70);
        y.dump(0, 12, 33);
        check.holds("sand slumps", y.settle() > 0);
        check.due("count(7)", y.count(7), 1);
    }

    private static void slumpsBothWays(Check check) {
        check.begin("promise 9, sand slumps both ways");
        BeachBars x = new BeachBars();
        x.dump(0, 5, 52);
        check.due("settle()", x.settle(), NONE);
        x.dump(0, 5, 55);
        check.due("settle()", x.settle(), 1);
        Beaches.heights(check, x, 0, 3, 51, 48, 54, 43, 39);
        x.dump(3, 10, 46);
        check.due("settle()", x.settle(), 4);
        Beaches.heights(check, x, 3, 8, 36, 34, 42, 30, 24);
        check.due("count(8)", x.count(8), 5);
        check.due("count(7)", x.count(7), 0);
        BeachBars y = new BeachBars();
        y.dump(1, 0, 99);
        check.holds("sand slumps", y.settle() > 0);
        check.due("row(1, 4)", y.row(1, 4), 12);
        check.due("row(1, 0)", y.row(1, 0), 630 + 39);
        y.dump(1, 19, 99);
        check.holds("sand slumps", y.settle() > 0);
        check.due("row(1, 4)", y.row(1, 4), 12);
        check.due("row(1, 0)", y.row(1, 0), 630 + 39 + 96);
    }

    private static void steepestDifferenceStands(Check check) {
        check.begin("promise 9, the steepest difference stands");
        for (int steepest = 4; steepest <= 30; steepest++) {
            BeachBars x = new BeachBars();
            x.set(3, steepest);
            x.dump(2, 0, 57 + steepest);
            x.dump(1, 19, Math.max(0, 6 - steepest));
            check.due("settle() at " + steepest, x.settle(), NONE);
            x.dump(2, 0, 57 + steepest + 1);
            check.due("settle() above " + steepest, x.settle(), 1);
            check.due("cell(2, 0, 0) above " + steepest, x.cell(2, 0, 0), 57 + steepest);
            check.due("cell(2, 1, 0) above " + steepest, x.cell(2, 1, 0), 58);
        }
    }

    private static void nothingIsLost(Check check) {
        check.begin("promise 9, nothing is lost");
        BeachBars x = new BeachBars();
        x.set(3, 4);
        for (int cell = 0; cell < 20; cell++) {
            for (int row = 0; row < 4; row++) {
                x.dump(row, cell, (cell + row) % 2 == 0 ? 99 : 0);
            }
        }
        check.due("count(0)", x.count(0), 40 * 99);
        int moved = x.settle();
        check.due("count(7) and count(8)", x.count(7) + x.count(8), moved);
        check.due("count(0)", x.count(0), 40 * 99);
        for (int row = 0; row < 4; row++) {
            check.holds("row " + row + " is at rest", x.row(row, 4) <= 4);
            check.due("row(" + row + ", 0)", x.row(row, 0), 990);
        }
    }

    private static void isAnAct(Check check) {
        check.begin("promise 9, settle is an act");
        BeachBars x = new BeachBars();
        x.dump(0, 5, 90);
        x.wave(0, 3);
        List<Integer> first = Beaches.state(x);
        check.holds("sand slumps", x.settle() > 0);
        check.due("count(9)", x.count(9), 1);
        check.due("ended(0, 0)", x.ended(0, 0), NONE);
        check.due("count(18)", x.count(18), 3);
        check.due("settle()", x.settle(), NONE);
        check.due("count(18)", x.count(18), 3);
        check.due("undo()", x.undo(), 2);
        check.holds("all is as it was", Beaches.state(x).equals(first));
    }
}
