/** Boundary sentences of SAND AND WATER, and of the promises that bring, take and tell sand. */
final class EdgesOfSandTest {
    private static final int NONE = -1005;

    private EdgesOfSandTest() {
    }

    static void test(Check check) {
        heightsAtFirst(check);
        emptyCellAndFullCell(check);
        broughtAndTaken(check);
        emptyBeach(check);
        fullBeach(check);
        depth0IsDry(check);
        barsFromCell1To18(check);
        barIsNotDry(check);
        barIsGreaterThanBoth(check);
        barsAtTheEndsAsBits(check);
        highestOfSeveral(check);
        gapsFromCell1To18(check);
        gapIsNotDry(check);
        barIsNoGap(check);
        gapOneRowAway(check);
        gapJustSoMuch(check);
        dryRidgeMakesNoGap(check);
        greatestDifference(check);
        sandOfOneCellAndOfAll(check);
    }

    private static void heightsAtFirst(Check check) {
        check.begin("promise 1, at first 60 less 3 times its number");
        BeachBars x = new BeachBars();
        for (int row = 0; row <= 3; row++) {
            check.due("cell(" + row + ", 0, 0)", x.cell(row, 0, 0), 60);
            check.due("cell(" + row + ", 19, 0)", x.cell(row, 19, 0), 3);
            check.due("cell(" + row + ", 0, 4)", x.cell(row, 0, 4), 0);
            check.due("cell(" + row + ", 19, 4)", x.cell(row, 19, 4), 0);
        }
    }

    private static void emptyCellAndFullCell(Check check) {
        check.begin("promise 2, a cell that is empty, and one that is full");
        BeachBars x = new BeachBars();
        check.due("dump(0, 0, 0)", x.dump(0, 0, 0), 60);
        check.due("dump(0, 0, 0) again", x.dump(0, 0, 0), NONE);
        check.due("dump(0, 0, 99)", x.dump(0, 0, 99), 0);
        check.due("dump(0, 0, 99) again", x.dump(0, 0, 99), NONE);
        check.due("count(18)", x.count(18), 2);
        check.due("count(3)", x.count(3), 99);
        check.due("count(4)", x.count(4), 60);
        check.due("dump(0, 0, 0)", x.dump(0, 0, 0), 99);
        check.due("count(4)", x.count(4), 159);
        check.due("undo()", x.undo(), 2);
        check.due("cell(0, 0, 0)", x.cell(0, 0, 0), 99);
    }

    private static void broughtAndTaken(Check check) {
        check.begin("promise 2, one unit is brought or taken");
        BeachBars x = new BeachBars();
        check.due("dump(1, 5, 46)", x.dump(1, 5, 46), 45);
        check.due("count(3)", x.count(3), 1);
        check.due("count(4)", x.count(4), 0);
        check.due("dump(1, 5, 45)", x.dump(1, 5, 45), 46);
        check.due("count(3)", x.count(3), 1);
        check.due("count(4)", x.count(4), 1);
    }

    private static void fill(BeachBars x, int height) {
        for (int row = 0; row < 4; row++) {
            for (int cell = 0; cell < 20; cell++) {
                x.dump(row, cell, height);
            }
        }
    }

    private static void emptyBeach(Check check) {
        check.begin("a beach without sand");
        BeachBars x = new BeachBars();
        fill(x, 0);
        check.due("count(0)", x.count(0), 0);
        check.due("count(4)", x.count(4), 2520);
        check.due("count(17)", x.count(17), 0);
        check.due("sand(0, 19)", x.sand(0, 19), 0);
        check.due("sand(19, 19)", x.sand(19, 19), 0);
        int[] row = {0, 0, 0, NONE, 0, 0, NONE};
        for (int what = 0; what <= 6; what++) {
            check.due("row(3, " + what + ")", x.row(3, what), row[what]);
        }
        check.due("cell(0, 0, 1)", x.cell(0, 0, 1), 40);
        check.due("cell(0, 0, 4)", x.cell(0, 0, 4), -60);
        check.due("would(0, 20, 4)", x.would(0, 20, 4), 3);
        check.due("settle()", x.settle(), NONE);
        check.due("keep()", x.keep(), 0);
        check.due("restore(), no sand is not NONE", x.restore(), 0);
        check.due("count(18)", x.count(18), 4);
        x.setLevel(20);
        check.due("would(0, 20, 5), the depth 20 is not less than 20", x.would(0, 20, 5), 0);
    }

    private static void fullBeach(Check check) {
        check.begin("a beach that is full");
        BeachBars x = new BeachBars();
        fill(x, 99);
        check.due("count(0)", x.count(0), 7920);
        check.due("count(3)", x.count(3), 7920 - 2520);
        check.due("count(17)", x.count(17), 80);
        check.due("sand(0, 19)", x.sand(0, 19), 7920);
        int[] row = {1980, 0, 0, 19, 0, 0, NONE};
        for (int what = 0; what <= 6; what++) {
            check.due("row(0, " + what + ")", x.row(0, what), row[what]);
        }
        check.due("cell(3, 19, 1)", x.cell(3, 19, 1), -59);
        check.due("cell(3, 19, 4)", x.cell(3, 19, 4), 96);
        check.due("settle()", x.settle(), NONE);
        check.due("keep()", x.keep(), 7920);
        check.due("restore()", x.restore(), 7920);
        check.due("wave(2, 20)", x.wave(2, 20), 1);
        check.due("run(30) at 70", x.run(30), 0);
        check.due("ended(0, 3)", x.ended(0, 3), 19);
        check.due("setLevel(70)", x.setLevel(70), 40);
        check.due("count(17)", x.count(17), 80);
        check.due("cell(0, 0, 1)", x.cell(0, 0, 1), -29);
    }

    private static void depth0IsDry(Check check) {
        check.begin("a depth of 0 is dry, a depth of 1 is not");
        int[] heights = {39, 40, 41};
        for (int height : heights) {
            BeachBars x = new BeachBars();
            x.dump(2, 15, height);
            boolean dry = height >= 40;
            check.due("cell(2, 15, 1) at " + height, x.cell(2, 15, 1), 40 - height);
            check.due("row(2, 3) at " + height, x.row(2, 3), dry ? 15 : 6);
            check.due("count(17) at " + height, x.count(17), dry ? 29 : 28);
            check.due("would(2, 1, 3) at " + height, x.would(2, 1, 3), dry ? 15 : 6);
        }
        BeachBars y = new BeachBars();
        y.setLevel(61);
        check.due("row(0, 3) at the level 61", y.row(0, 3), NONE);
        check.due("count(17) at the level 61", y.count(17), 0);
        y.setLevel(60);
        check.due("row(0, 3) at the level 60", y.row(0, 3), 0);
        check.due("count(17) at the level 60", y.count(17), 4);
        y.dump(0, 19, 60);
        check.due("row(0, 3), the last cell dry", y.row(0, 3), 19);
    }

    private static void barsFromCell1To18(Check check) {
        check.begin("a cell from 1 to 18 is a bar");
        for (int row = 0; row <= 3; row++) {
            for (int cell = 0; cell <= 19; cell++) {
                BeachBars x = new BeachBars();
                x.setLevel(70);
                x.dump(row, cell, 69);
                int due = cell >= 1 && cell <= 18 ? 1 : 0;
                check.due("cell(" + row + ", " + cell + ", 2)", x.cell(row, cell, 2), due);
                check.due("row(" + row + ", 1)", x.row(row, 1), due);
                check.due("row(" + row + ", 5)", x.row(row, 5), due << cell);
                check.due("row(" + row + ", 6)", x.row(row, 6), due == 1 ? cell : NONE);
                check.due("count(15)", x.count(15), due);
            }
        }
    }

    private static void barIsNotDry(Check check) {
        check.begin("a bar is not dry");
        BeachBars x = new BeachBars();
        x.dump(1, 12, 39);
        check.due("cell(1, 12, 2) in a depth of 1", x.cell(1, 12, 2), 1);
        x.dump(1, 12, 40);
        check.due("cell(1, 12, 2) in a depth of 0", x.cell(1, 12, 2), 0);
        check.due("count(15)", x.count(15), 0);
        check.due("row(1, 5)", x.row(1, 5), 0);
        x.dump(1, 12, 41);
        check.due("cell(1, 12, 2) above the water", x.cell(1, 12, 2), 0);
    }

    private static void barIsGreaterThanBoth(Check check) {
        check.begin("the height of a bar is greater than those of both cells beside it");
        for (int ahead = 29; ahead <= 31; ahead++) {
            for (int behind = 29; behind <= 31; behind++) {
                BeachBars x = new BeachBars();
                Beaches.shape(x, 0, 10, ahead, 30, behind);
                check.due("cell(0, 11, 2) between " + ahead + " and " + behind, x.cell(0, 11, 2),
                        ahead < 30 && behind < 30 ? 1 : 0);
            }
        }
    }

    private static void barsAtTheEndsAsBits(Check check) {
        check.begin("promise 16, bars as bits, 1 for the cell 0 and so on");
        BeachBars x = new BeachBars();
        x.setLevel(70);
        x.dump(3, 1, 61);
        check.due("row(3, 5)", x.row(3, 5), 2);
        x.dump(3, 18, 10);
        check.due("row(3, 5)", x.row(3, 5), 2 + 262144);
        check.due("row(3, 1)", x.row(3, 1), 2);
        for (int cell = 1; cell <= 17; cell += 2) {
            x.dump(2, cell, 69);
        }
        check.due("row(2, 1), each second cell", x.row(2, 1), 9);
        check.due("row(2, 5), each second cell", x.row(2, 5), 0x2AAAA);
    }

    private static void highestOfSeveral(Check check) {
        check.begin("promise 16, the highest bar, of several the lowest number");
        BeachBars x = new BeachBars();
        x.setLevel(70);
        check.due("row(1, 6) without a bar", x.row(1, 6), NONE);
        x.dump(1, 18, 68);
        check.due("row(1, 6)", x.row(1, 6), 18);
        x.dump(1, 9, 68);
        check.due("row(1, 6), another as high", x.row(1, 6), 9);
        x.dump(1, 1, 68);
        check.due("row(1, 6), a third as high", x.row(1, 6), 1);
        x.dump(1, 9, 69);
        check.due("row(1, 6), one higher", x.row(1, 6), 9);
        x.dump(1, 9, 70);
        check.due("row(1, 6), the higher one dry", x.row(1, 6), 1);
        BeachBars y = new BeachBars();
        Beaches.shape(y, 0, 16, 0, 1, 0, 0);
        check.due("row(0, 6), a bar of one unit", y.row(0, 6), 17);
    }

    private static void gapsFromCell1To18(Check check) {
        check.begin("a cell from 1 to 18 is a gap");
        for (int cell = 0; cell <= 19; cell++) {
            BeachBars x = new BeachBars();
            x.setLevel(70);
            x.dump(2, cell, 69);
            int due = cell >= 1 && cell <= 18 ? 1 : 0;
            check.due("cell(1, " + cell + ", 3)", x.cell(1, cell, 3), due);
            check.due("cell(3, " + cell + ", 3)", x.cell(3, cell, 3), due);
            check.due("row(1, 2)", x.row(1, 2), due);
            check.due("row(3, 2)", x.row(3, 2), due);
            check.due("count(16)", x.count(16), 2 * due);
        }
    }

    private static void gapIsNotDry(Check check) {
        check.begin("a gap is not dry");
        BeachBars x = new BeachBars();
        x.set(2, 1);
        x.dump(1, 12, 39);
        x.dump(0, 12, 38);
        x.dump(0, 13, 38);
        check.due("cell(0, 12, 3) in a depth of 2", x.cell(0, 12, 3), 1);
        x.dump(0, 12, 40);
        check.due("cell(0, 12, 3) in a depth of 0", x.cell(0, 12, 3), 0);
        x.dump(0, 12, 50);
        check.due("cell(0, 12, 3) above the water", x.cell(0, 12, 3), 0);
    }

    private static void barIsNoGap(Check check) {
        check.begin("a gap is no bar");
        BeachBars x = new BeachBars();
        x.dump(1, 12, 39);
        check.due("cell(1, 12, 3)", x.cell(1, 12, 3), 0);
        x.dump(2, 12, 28);
        check.due("cell(2, 12, 2)", x.cell(2, 12, 2), 1);
        check.due("cell(2, 12, 3), a bar", x.cell(2, 12, 3), 0);
        x.dump(2, 12, 27);
        check.due("cell(2, 12, 2)", x.cell(2, 12, 2), 0);
        check.due("cell(2, 12, 3), no bar", x.cell(2, 12, 3), 1);
    }

    private static void gapOneRowAway(Check check) {
        check.begin("a gap has its bar in a row beside its own, one number less or more");
        for (int row = 0; row <= 3; row++) {
            BeachBars x = new BeachBars();
            x.dump(row, 12, 30);
            for (int other = 0; other <= 3; other++) {
                int due = Math.abs(row - other) == 1 ? 1 : 0;
                check.due("cell(" + other + ", 12, 3), bar in " + row, x.cell(other, 12, 3), due);
                check.due("row(" + other + ", 2), bar in " + row, x.row(other, 2), due);
                check.due("cell(" + other + ", 11, 3), bar in " + row, x.cell(other, 11, 3), 0);
                check.due("cell(" + other + ", 13, 3), bar in " + row, x.cell(other, 13, 3), 0);
            }
        }
    }

    private static void gapJustSoMuch(Check check) {
        check.begin("a bar is at least so much greater as the setting 2 tells");
        for (int gap = 1; gap <= 20; gap++) {
            BeachBars x = new BeachBars();
            x.setLevel(70);
            x.set(2, gap);
            Beaches.shape(x, 2, 9, 0, 30 + gap, 0);
            check.due("cell(1, 10, 3) at " + gap, x.cell(1, 10, 3), 1);
            check.due("cell(3, 10, 3) at " + gap, x.cell(3, 10, 3), 1);
            x.dump(2, 10, 30 + gap - 1);
            check.due("cell(2, 10, 2) at " + gap, x.cell(2, 10, 2), 1);
            check.due("cell(1, 10, 3) at 1 less than " + gap, x.cell(1, 10, 3), 0);
            check.due("cell(3, 10, 3) at 1 less than " + gap, x.cell(3, 10, 3), 0);
            x.dump(2, 10, 30 + gap + 1);
            check.due("cell(1, 10, 3) at 1 more than " + gap, x.cell(1, 10, 3), 1);
        }
    }

    private static void dryRidgeMakesNoGap(Check check) {
        check.begin("a dry ridge is no bar and makes no gap");
        BeachBars x = new BeachBars();
        x.dump(1, 12, 40);
        check.due("cell(0, 12, 3)", x.cell(0, 12, 3), 0);
        check.due("count(16)", x.count(16), 0);
        x.dump(1, 12, 39);
        check.due("cell(0, 12, 3)", x.cell(0, 12, 3), 1);
        check.due("count(16)", x.count(16), 2);
    }

    private static void greatestDifference(Check check) {
        check.begin("promise 16, the greatest difference, from 0 to 99");
        BeachBars x = new BeachBars();
        Beaches.shape(x, 0, 0, 99, 0);
        check.due("row(0, 4), the first two", x.row(0, 4), 99);
        Beaches.shape(x, 1, 18, 0, 99);
        check.due("row(1, 4), the last two", x.row(1, 4), 99);
        Beaches.shape(x, 2, 0, 0, 99);
        check.due("row(2, 4), the second higher", x.row(2, 4), 99);
        check.due("row(3, 4), the row after it", x.row(3, 4), 3);
    }

    private static void sandOfOneCellAndOfAll(Check check) {
        check.begin("promise 20, one cell, and all cells");
        BeachBars x = new BeachBars();
        x.dump(0, 0, 99);
        x.dump(3, 19, 99);
        x.dump(1, 19, 0);
        check.due("sand(0, 0)", x.sand(0, 0), 240 + 39);
        check.due("sand(19, 19)", x.sand(19, 19), 12 + 96 - 3);
        check.due("sand(0, 19)", x.sand(0, 19), 2520 + 39 + 96 - 3);
        check.due("count(0)", x.count(0), 2520 + 39 + 96 - 3);
        check.due("sand(1, 18)", x.sand(1, 18), 2520 - 252);
    }
}
