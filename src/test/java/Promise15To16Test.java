/** cell and row. */
final class Promise15To16Test {
    private static final int UNKNOWN = -1001;
    private static final int BAD_VALUE = -1002;
    private static final int NONE = -1005;
    private static final int MIN = Integer.MIN_VALUE;
    private static final int MAX = Integer.MAX_VALUE;

    private Promise15To16Test() {
    }

    static void test(Check check) {
        cell(check);
        bars(check);
        gaps(check);
        gapsAndTheSetting(check);
        cellRefuses(check);
        row(check);
        rowOfBars(check);
        dryCells(check);
        differences(check);
        rowRefuses(check);
    }

    private static void cell(Check check) {
        check.begin("promise 15, height, depth and change");
        BeachBars x = new BeachBars();
        x.dump(3, 19, 40);
        x.dump(0, 0, 10);
        check.due("cell(3, 19, 0)", x.cell(3, 19, 0), 40);
        check.due("cell(3, 19, 1)", x.cell(3, 19, 1), 0);
        check.due("cell(3, 19, 4)", x.cell(3, 19, 4), 37);
        check.due("cell(0, 0, 0)", x.cell(0, 0, 0), 10);
        check.due("cell(0, 0, 1)", x.cell(0, 0, 1), 30);
        check.due("cell(0, 0, 4)", x.cell(0, 0, 4), -50);
        check.due("cell(1, 0, 1)", x.cell(1, 0, 1), -20);
        check.due("cell(1, 0, 4)", x.cell(1, 0, 4), 0);
        x.setLevel(70);
        check.due("cell(1, 0, 1)", x.cell(1, 0, 1), 10);
        check.due("cell(2, 13, 1)", x.cell(2, 13, 1), 49);
    }

    private static void bars(Check check) {
        check.begin("promise 15, bars");
        BeachBars x = new BeachBars();
        x.dump(0, 12, 27);
        check.due("as high as the cell ahead", x.cell(0, 12, 2), 0);
        x.dump(0, 12, 28);
        check.due("higher than both", x.cell(0, 12, 2), 1);
        check.due("the cell ahead", x.cell(0, 11, 2), 0);
        x.dump(0, 13, 28);
        check.due("as high as the cell behind", x.cell(0, 12, 2), 0);
        check.due("the cell behind", x.cell(0, 13, 2), 0);
        x.dump(0, 12, 39);
        check.due("1 below the level", x.cell(0, 12, 2), 1);
        x.dump(0, 12, 40);
        check.due("dry", x.cell(0, 12, 2), 0);
        x.setLevel(41);
        check.due("under water again", x.cell(0, 12, 2), 1);
        x.setLevel(70);
        x.dump(1, 0, 65);
        x.dump(1, 19, 40);
        check.due("the first cell", x.cell(1, 0, 2), 0);
        check.due("the last cell", x.cell(1, 19, 2), 0);
        x.dump(2, 0, 1);
        check.due("the last cell, and the next row is low", x.cell(1, 19, 2), 0);
        x.dump(3, 19, 40);
        check.due("the last cell of the last row", x.cell(3, 19, 2), 0);
        x.dump(1, 19, 3);
        x.dump(2, 0, 69);
        check.due("the first cell, and the row before is low", x.cell(2, 0, 2), 0);
        x.dump(0, 0, 65);
        check.due("the first cell of the first row", x.cell(0, 0, 2), 0);
        x.dump(1, 19, 40);
        x.dump(1, 1, 66);
        check.due("the cell 1", x.cell(1, 1, 2), 1);
        x.dump(1, 18, 41);
        check.due("the cell 18", x.cell(1, 18, 2), 1);
    }

    private static void gaps(Check check) {
        check.begin("promise 15, gaps");
        BeachBars x = new BeachBars();
        x.dump(1, 12, 30);
        check.due("above a bar", x.cell(0, 12, 3), 1);
        check.due("below a bar", x.cell(2, 12, 3), 1);
        check.due("two rows away", x.cell(3, 12, 3), 0);
        check.due("the bar", x.cell(1, 12, 3), 0);
        check.due("another cell", x.cell(0, 11, 3), 0);
        x.dump(0, 12, 28);
        x.dump(1, 12, 36);
        check.due("a bar is no gap", x.cell(0, 12, 3), 0);
        check.due("a bar", x.cell(0, 12, 2), 1);
        check.due("the higher bar", x.cell(1, 12, 2), 1);
        check.due("below the higher bar", x.cell(2, 12, 3), 1);
        x.dump(1, 12, 30);
        x.setLevel(30);
        check.due("no bar, for it is dry", x.cell(2, 12, 3), 0);
        BeachBars y = new BeachBars();
        y.setLevel(70);
        Beaches.shape(y, 3, 0, 20, 69, 20);
        Beaches.shape(y, 3, 18, 69, 20);
        check.due("the cell 1", y.cell(2, 1, 3), 1);
        check.due("the cell 18", y.cell(2, 18, 3), 1);
        check.due("the cell 0", y.cell(2, 0, 3), 0);
        check.due("the cell 19", y.cell(2, 19, 3), 0);
        check.due("the first row", y.cell(0, 1, 3), 0);
        check.due("row(2, 2)", y.row(2, 2), 2);
        BeachBars z = new BeachBars();
        Beaches.shape(z, 2, 5, 30, 39, 30);
        check.due("a bar", z.cell(2, 6, 2), 1);
        check.due("dry and higher", z.cell(1, 6, 3), 0);
        z.set(2, 1);
        Beaches.shape(z, 3, 5, 50, 38, 50);
        check.due("lower by 1", z.cell(3, 6, 3), 1);
    }

    private static void gapsAndTheSetting(Check check) {
        check.begin("promise 15, gaps and the setting 2");
        for (int gap = 1; gap <= 15; gap++) {
            BeachBars x = new BeachBars();
            x.set(2, gap);
            Beaches.shape(x, 2, 12, 20 + gap, 5);
            Beaches.shape(x, 2, 11, 5);
            x.dump(1, 12, 20);
            x.dump(3, 12, 21);
            check.due("just so much higher, " + gap, x.cell(1, 12, 3), 1);
            check.due("1 less, " + gap, x.cell(3, 12, 3), 0);
        }
    }

    private static void cellRefuses(Check check) {
        check.begin("promise 15, cell refuses");
        BeachBars x = new BeachBars();
        for (int row : new int[] {-1, 4, MIN, MAX}) {
            check.due("cell(" + row + ", 0, 9)", x.cell(row, 0, 9), UNKNOWN);
        }
        for (int cell : new int[] {-1, 20, MIN, MAX}) {
            check.due("cell(0, " + cell + ", 9)", x.cell(0, cell, 9), UNKNOWN);
            check.due("cell(3, " + cell + ", 3)", x.cell(3, cell, 3), UNKNOWN);
        }
        for (int what : new int[] {-1, 5, MIN, MAX}) {
            check.due("cell(0, 0, " + what + ")", x.cell(0, 0, what), BAD_VALUE);
        }
    }

    private static void row(Check check) {
        check.begin("promise 16, a row as at first");
        BeachBars x = new BeachBars();
        int[] first = {630, 0, 0, 6, 3, 0, NONE};
        for (int row = 0; row < 4; row++) {
            for (int what = 0; what <= 6; what++) {
                check.due("row(" + row + ", " + what + ")", x.row(row, what), first[what]);
            }
        }
        x.dump(1, 3, 0);
        check.due("row(1, 0)", x.row(1, 0), 579);
        check.due("row(0, 0)", x.row(0, 0), 630);
    }

    private static void rowOfBars(Check check) {
        check.begin("promise 16, the bars and gaps of a row");
        BeachBars x = new BeachBars();
        x.dump(2, 10, 34);
        x.dump(2, 14, 34);
        x.dump(2, 18, 33);
        check.due("row(2, 1)", x.row(2, 1), 3);
        check.due("row(2, 5)", x.row(2, 5), (1 << 10) + (1 << 14) + (1 << 18));
        check.due("row(2, 6)", x.row(2, 6), 10);
        check.due("row(2, 2)", x.row(2, 2), 0);
        check.due("row(1, 2)", x.row(1, 2), 3);
        check.due("row(3, 2)", x.row(3, 2), 3);
        check.due("row(0, 2)", x.row(0, 2), 0);
        check.due("row(1, 1)", x.row(1, 1), 0);
        check.due("row(1, 5)", x.row(1, 5), 0);
        x.dump(2, 18, 35);
        check.due("row(2, 6)", x.row(2, 6), 18);
        x.dump(2, 14, 36);
        check.due("row(2, 6)", x.row(2, 6), 14);
        x.setLevel(36);
        check.due("row(2, 1)", x.row(2, 1), 2);
        check.due("row(2, 6)", x.row(2, 6), 18);
        x.setLevel(70);
        Beaches.shape(x, 0, 0, 0, 1, 0);
        check.due("row(0, 5)", x.row(0, 5), 2 + 8);
        check.due("row(0, 6)", x.row(0, 6), 3);
        x.dump(0, 3, 0);
        x.dump(0, 4, 0);
        check.due("row(0, 5)", x.row(0, 5), 2 + 32);
        check.due("row(0, 6)", x.row(0, 6), 5);
        x.dump(0, 1, 69);
        check.due("row(0, 6)", x.row(0, 6), 1);
        check.due("row(1, 2)", x.row(1, 2), 4);
    }

    private static void dryCells(Check check) {
        check.begin("promise 16, the dry cell with the greatest number");
        BeachBars x = new BeachBars();
        x.dump(1, 12, 40);
        check.due("row(1, 3)", x.row(1, 3), 12);
        x.dump(1, 12, 39);
        check.due("row(1, 3)", x.row(1, 3), 6);
        x.dump(1, 19, 99);
        check.due("row(1, 3)", x.row(1, 3), 19);
        x.setLevel(61);
        check.due("row(0, 3)", x.row(0, 3), NONE);
        check.due("row(1, 3)", x.row(1, 3), 19);
        x.setLevel(60);
        check.due("row(0, 3)", x.row(0, 3), 0);
    }

    private static void differences(Check check) {
        check.begin("promise 16, the greatest difference");
        BeachBars x = new BeachBars();
        x.dump(0, 19, 50);
        check.due("row(0, 4)", x.row(0, 4), 44);
        x.dump(0, 0, 2);
        check.due("row(0, 4)", x.row(0, 4), 55);
        x.dump(0, 1, 99);
        check.due("row(0, 4)", x.row(0, 4), 97);
        x.dump(1, 0, 99);
        check.due("row(1, 4)", x.row(1, 4), 42);
        BeachBars y = new BeachBars();
        for (int cell = 0; cell < 20; cell++) {
            y.dump(3, cell, 7);
        }
        check.due("row(3, 4)", y.row(3, 4), 0);
    }

    private static void rowRefuses(Check check) {
        check.begin("promise 16, row refuses");
        BeachBars x = new BeachBars();
        for (int row : new int[] {-1, 4, MIN, MAX}) {
            check.due("row(" + row + ", 7)", x.row(row, 7), UNKNOWN);
            check.due("row(" + row + ", 2)", x.row(row, 2), UNKNOWN);
        }
        for (int what : new int[] {-1, 7, MIN, MAX}) {
            check.due("row(3, " + what + ")", x.row(3, what), BAD_VALUE);
        }
    }
}
