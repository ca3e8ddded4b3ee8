/** Boundary sentences of RIPS AND SLUMPING, and of settle. */
final class EdgesOfSettlingTest {
    private static final int NONE = -1005;

    private EdgesOfSettlingTest() {
    }

    static void test(Check check) {
        gapHasAnySand(check);
        nextCellHasLessThan99(check);
        gapsAtBothEnds(check);
        eachGapLosesOneUnit(check);
        steepestDifferenceStands(check);
        emptyBesideFull(check);
        againAndAgain(check);
        onlyWithinARow(check);
        ripsAloneAndSlumpingAlone(check);
        slumpingFollowsRips(check);
        noneIsMoved(check);
        settleAddsToTheCounts(check);
    }

    private static void gapHasAnySand(Check check) {
        check.begin("promise 9, a gap loses a unit if it has any");
        for (int units = 0; units <= 2; units++) {
            BeachBars x = new BeachBars();
            x.set(3, 30);
            x.dump(1, 12, units);
            x.dump(0, 12, 28);
            check.due("cell(1, 12, 3)", x.cell(1, 12, 3), 1);
            check.due("count(16)", x.count(16), 1);
            int due = Math.min(1, units);
            check.due("settle() with " + units, x.settle(), due == 0 ? NONE : 1);
            Beaches.heights(check, x, 1, 12, units - due, 21 + due);
            check.due("count(7) with " + units, x.count(7), due);
            check.due("count(8) with " + units, x.count(8), 0);
            check.due("settle() again with " + units, x.settle(), units == 2 ? 1 : NONE);
        }
    }

    /** In the storm that comes, the cell 12 of the row 0 is the only bar, beside a gap before nearly full cells. */
    private static BeachBars gapBefore(int height) {
        BeachBars x = new BeachBars();
        x.setLevel(70);
        x.set(2, 1);
        x.set(3, 30);
        Beaches.shape(x, 0, 9, 40, 60, 80, 97, 80, 60, 40);
        Beaches.shape(x, 1, 6, 50, 60, 70, 80, 90, 96, 96, height, 99, 99, 99, 99, 99, 99);
        x.wave(3, 1);
        return x;
    }

    private static void nextCellHasLessThan99(Check check) {
        check.begin("promise 8, a gap loses a unit if the cell behind it has less than 99");
        for (int height = 97; height <= 99; height++) {
            BeachBars x = gapBefore(height);
            int due = height < 99 ? 1 : 0;
            check.due("run(30) at " + height, x.run(30), 0);
            check.due("count(7) at " + height, x.count(7), due);
            check.due("count(8) at " + height, x.count(8), 0);
            Beaches.heights(check, x, 1, 11, 96, 96 - due, height + due, 99);
        }
    }

    private static void gapsAtBothEnds(Check check) {
        check.begin("promise 9, gaps in the cells 1 and 18");
        BeachBars x = new BeachBars();
        x.setLevel(70);
        x.set(3, 30);
        x.dump(0, 1, 61);
        x.dump(3, 18, 9 + 1);
        check.due("count(16)", x.count(16), 2);
        check.due("settle()", x.settle(), 2);
        Beaches.heights(check, x, 1, 0, 60, 56, 55, 51);
        Beaches.heights(check, x, 2, 17, 9, 5, 4);
        check.due("count(1), nothing went into the deep", x.count(1), 0);
        check.due("count(0)", x.count(0), 2520 + 4 + 4);
    }

    private static void eachGapLosesOneUnit(Check check) {
        check.begin("promise 9, a gap between two bars loses 1 unit");
        BeachBars x = new BeachBars();
        x.set(3, 30);
        x.dump(0, 12, 30);
        x.dump(2, 12, 35);
        check.due("count(16)", x.count(16), 2);
        check.due("settle()", x.settle(), 2);
        Beaches.heights(check, x, 1, 11, 27, 23, 22, 18);
        Beaches.heights(check, x, 3, 11, 27, 23, 22, 18);
    }

    /** A row that is dry and flat, but for a step of so much between a cell and the next one. */
    private static BeachBars step(int cell, int ahead, int behind) {
        BeachBars x = new BeachBars();
        x.setLevel(20);
        for (int i = 0; i < 20; i++) {
            x.dump(2, i, i <= cell ? ahead : behind);
        }
        return x;
    }

    private static void steepestDifferenceStands(Check check) {
        check.begin("promise 9, 1 unit goes or comes if the difference is more than the setting 3");
        for (int steepest = 4; steepest <= 30; steepest++) {
            for (int cell = 0; cell <= 18; cell++) {
                BeachBars x = step(cell, 30 + steepest, 30);
                x.set(3, steepest);
                check.due("settle() down " + steepest, x.settle(), NONE);
                BeachBars y = step(cell, 30, 30 + steepest);
                y.set(3, steepest);
                check.due("settle() up " + steepest, y.settle(), NONE);
                BeachBars down = step(cell, 31 + steepest, 30);
                down.set(3, steepest);
                check.due("settle() down, 1 more than " + steepest, down.settle(), 1);
                Beaches.heights(check, down, 2, cell, 30 + steepest, 31);
                BeachBars up = step(cell, 30, 31 + steepest);
                up.set(3, steepest);
                check.due("settle() up, 1 more than " + steepest, up.settle(), 1);
                Beaches.heights(check, up, 2, cell, 31, 30 + steepest);
                check.due("count(8)", up.count(8), 1);
                check.due("row(2, 4)", up.row(2, 4), steepest - 1);
            }
        }
    }

    private static void emptyBesideFull(Check check) {
        check.begin("promise 9, an empty cell beside a full one");
        int[][] steps = {{99, 0}, {0, 99}};
        for (int[] heights : steps) {
            for (int steepest = 4; steepest <= 30; steepest += 13) {
                BeachBars x = step(9, heights[0], heights[1]);
                x.set(3, steepest);
                check.holds("sand slumps", x.settle() > 0);
                check.holds("it is at rest", x.row(2, 4) <= steepest);
                check.due("row(2, 0)", x.row(2, 0), 990);
                check.due("count(0)", x.count(0), 3 * 630 + 990);
                check.due("settle() again", x.settle(), NONE);
            }
        }
    }

    private static void againAndAgain(Check check) {
        check.begin("promise 9, again and again until a whole time changes nothing");
        BeachBars x = step(0, 38, 30);
        x.set(3, 4);
        check.due("settle(), in two times", x.settle(), 2);
        Beaches.heights(check, x, 2, 0, 36, 32, 30);
        BeachBars y = step(18, 30, 38);
        y.set(3, 4);
        check.due("settle(), in two times, at the deep", y.settle(), 2);
        Beaches.heights(check, y, 2, 17, 30, 32, 36);
        BeachBars z = step(3, 20, 20);
        z.set(3, 4);
        Beaches.shape(z, 2, 0, 35, 30, 26, 22);
        check.due("settle(), each of three cells once", z.settle(), 3);
        Beaches.heights(check, z, 2, 0, 34, 30, 26, 23, 20);
        BeachBars back = step(19, 30, 30);
        back.set(3, 4);
        Beaches.shape(back, 2, 16, 26, 22, 18, 13);
        check.due("settle(), in four times, from the deep on", back.settle(), 4);
        Beaches.heights(check, back, 2, 14, 30, 29, 26, 22, 18, 14);
    }

    private static void onlyWithinARow(Check check) {
        check.begin("promise 9, no sand leaves its row");
        BeachBars x = new BeachBars();
        x.setLevel(20);
        for (int cell = 0; cell < 20; cell++) {
            x.dump(1, cell, 99);
            x.dump(2, cell, 0);
        }
        check.due("settle()", x.settle(), NONE);
        check.due("row(1, 0)", x.row(1, 0), 1980);
        check.due("row(2, 0)", x.row(2, 0), 0);
    }

    private static void ripsAloneAndSlumpingAlone(Check check) {
        check.begin("promise 9, what both moved, where one of them moved nothing");
        BeachBars x = new BeachBars();
        x.dump(0, 12, 28);
        check.due("settle(), rips alone", x.settle(), 1);
        check.due("count(7)", x.count(7), 1);
        check.due("count(8)", x.count(8), 0);
        BeachBars y = new BeachBars();
        y.dump(0, 0, 70);
        check.due("settle(), slumping alone", y.settle(), 1);
        check.due("count(7)", y.count(7), 0);
        check.due("count(8)", y.count(8), 1);
    }

    private static void slumpingFollowsRips(Check check) {
        check.begin("promise 9, slumping follows rips");
        BeachBars x = new BeachBars();
        x.set(3, 4);
        Beaches.shape(x, 0, 11, 31, 27, 23, 19);
        Beaches.shape(x, 1, 11, 28, 25);
        check.due("row(0, 4)", x.row(0, 4), 4);
        check.due("row(1, 4)", x.row(1, 4), 4);
        check.due("settle(), the rip makes it too steep", x.settle(), 2);
        check.due("count(7)", x.count(7), 1);
        check.due("count(8)", x.count(8), 1);
        Beaches.heights(check, x, 0, 10, 30, 31, 27, 23, 19, 15);
        Beaches.heights(check, x, 1, 10, 30, 27, 25, 22, 18);
    }

    private static void noneIsMoved(Check check) {
        check.begin("promise 9, NONE if no unit is moved");
        BeachBars x = new BeachBars();
        check.due("settle()", x.settle(), NONE);
        check.due("count(18)", x.count(18), 0);
        x.dump(0, 12, 26);
        check.due("settle(), a rise that is no bar", x.settle(), NONE);
        x.dump(0, 12, 27);
        check.due("settle(), as high as the cell ahead", x.settle(), NONE);
        x.dump(0, 0, 69);
        check.due("settle(), just not too steep", x.settle(), NONE);
        check.due("count(18)", x.count(18), 3);
        check.due("count(7)", x.count(7), 0);
        check.due("count(8)", x.count(8), 0);
    }

    private static void settleAddsToTheCounts(Check check) {
        check.begin("promise 9, units count among those moved so far, and undo takes them back");
        BeachBars x = new BeachBars();
        x.dump(0, 12, 28);
        check.due("settle()", x.settle(), 1);
        check.due("settle()", x.settle(), 1);
        check.due("count(7)", x.count(7), 2);
        x.dump(3, 0, 73);
        check.due("settle()", x.settle(), 1 + 2);
        check.due("count(7)", x.count(7), 3);
        check.due("count(8)", x.count(8), 2);
        check.due("undo()", x.undo(), 3);
        check.due("count(7)", x.count(7), 2);
        check.due("count(8)", x.count(8), 0);
        Beaches.heights(check, x, 1, 12, 22, 23);
    }
}
