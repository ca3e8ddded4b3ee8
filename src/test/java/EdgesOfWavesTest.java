/** Boundary sentences of WAVES, and of the promises that let waves wait, run and tell. */
final class EdgesOfWavesTest {
    private static final int FULL = -1003;
    private static final int NONE = -1005;
    private static final int DEEP = 70;

    private EdgesOfWavesTest() {
    }

    static void test(Check check) {
        endsWhereItIsDry(check);
        breaksWhereTheDepthIsLess(check);
        unitsByHeight(check);
        asManyAsTheCellHas(check);
        setting0JustReached(check);
        heightWithWhichItCameIn(check);
        from19(check);
        from0(check);
        passesTheCell0(check);
        takesUpTo99(check);
        staysWhereItWas(check);
        halfRoundedDown(check);
        onceAtEachCell(check);
        neverSpent(check);
        surgeToTheHighestWater(check);
        surgeIsOverThen(check);
        ofSeveralAsTheyCame(check);
        waitingIsNotSorted(check);
        fullWith24(check);
        allOrNone(check);
        strikesTheEnds(check);
        strikesAllAndNone(check);
        runThatBreaksNothing(check);
        endedUpToThe24th(check);
        wouldWhileTheRowIsFull(check);
        wouldIsWithoutASurge(check);
    }

    /**
     * A beach at the level 70 whose row 0 is 70 deep but for a shoal in the cell 10 and a dry cell 9, which can
     * take 29 units more.
     */
    private static BeachBars shoal(int depth) {
        BeachBars x = new BeachBars();
        x.setLevel(DEEP);
        Beaches.shape(x, 0, 9, DEEP, DEEP - depth, 0, 0, 0, 0, 0, 0, 0, 0, 0);
        return x;
    }

    private static void would(Check check, BeachBars x, int height, int... facts) {
        for (int i = 0; i < facts.length; i++) {
            check.due("would(0, " + height + ", " + (2 + i) + ")", x.would(0, height, 2 + i), facts[i]);
        }
    }

    private static void endsWhereItIsDry(Check check) {
        check.begin("promise 19, if a cell is dry, the wave ends there");
        for (int height = 1; height <= 20; height++) {
            would(check, shoal(0), height, NONE, 10, 1, 0, 0);
            BeachBars x = new BeachBars();
            x.dump(0, 19, 40);
            would(check, x, height, NONE, 19, 1, 0, 0);
            x.dump(0, 19, 99);
            would(check, x, height, NONE, 19, 1, 0, 0);
        }
        BeachBars y = new BeachBars();
        y.dump(0, 19, 39);
        would(check, y, 20, 19);
    }

    private static void breaksWhereTheDepthIsLess(Check check) {
        check.begin("promise 19, a wave breaks if the depth is less than its height");
        for (int height = 1; height <= 20; height++) {
            would(check, shoal(height + 1), height, NONE, 9, 1, 0, 0);
            would(check, shoal(height), height, NONE, 9, 1, 0, 0);
            if (height > 1) {
                would(check, shoal(height - 1), height, 10, 9, 1, 1);
                would(check, shoal(1), height, 10, 9, 1, 1);
            }
        }
    }

    private static void unitsByHeight(Check check) {
        check.begin("promise 19, 1 + its height / 5 units, rounded down");
        int[] units = {0, 0, 1, 1, 1, 2, 2, 2, 2, 2, 3, 3, 3, 3, 3, 4, 4, 4, 4, 4, 5};
        for (int height = 2; height <= 20; height++) {
            check.due("would(0, " + height + ", 6)", shoal(1).would(0, height, 6), units[height]);
            BeachBars x = shoal(1);
            x.set(0, 20);
            check.due("would(0, " + height + ", 6), setting 20", x.would(0, height, 6), units[height]);
        }
    }

    private static void asManyAsTheCellHas(Check check) {
        check.begin("promise 19, at most as many units as the cell has");
        int[][] dueByHave = {{20, 1, 1}, {20, 2, 2}, {19, 2, 2}, {20, 3, 3}, {19, 3, 3}, {18, 3, 3},
            {20, 4, 4}, {17, 4, 4}, {20, 5, 5}, {20, 6, 5}, {16, 5, 4}};
        for (int[] due : dueByHave) {
            BeachBars x = new BeachBars();
            x.setLevel(20);
            Beaches.shape(x, 0, 9, 25, due[1], 0, 0, 0, 0, 0, 0, 0, 0, 0);
            check.due("would(0, " + due[0] + ", 5) at " + due[1], x.would(0, due[0], 5), 1);
            check.due("would(0, " + due[0] + ", 6) at " + due[1], x.would(0, due[0], 6), due[2]);
        }
        BeachBars y = new BeachBars();
        y.setLevel(20);
        Beaches.shape(y, 0, 9, 25, 0, 0, 0, 0, 0, 0, 0, 0, 0, 0);
        would(check, y, 20, NONE, 9, 1, 0, 0);
    }

    /** A beach at the level 20 whose row 0 is flat, dry up to the cell 9 and empty behind the cell 10. */
    private static BeachBars lowShoal(int height) {
        BeachBars x = new BeachBars();
        x.setLevel(20);
        x.set(3, 30);
        Beaches.shape(x, 0, 0, 25, 25, 25, 25, 25, 25, 25, 25, 25, 25, height, 0, 0, 0, 0, 0, 0, 0, 0, 0);
        return x;
    }

    private static void movedBy(Check check, int setting, int height, int ahead, int here, int behind) {
        BeachBars x = lowShoal(19);
        x.set(0, setting);
        x.wave(0, height);
        check.due("run(0) of " + height + " at " + setting, x.run(0), 1);
        Beaches.heights(check, x, 0, 9, ahead, here, behind, 0);
        check.due("count(7)", x.count(7), 0);
        check.due("count(8)", x.count(8), 0);
    }

    private static void setting0JustReached(Check check) {
        check.begin("promise 8, at least the setting 0: out to sea, otherwise to the dune");
        movedBy(check, 8, 7, 27, 17, 0);
        movedBy(check, 8, 8, 25, 17, 2);
        movedBy(check, 8, 9, 25, 17, 2);
        movedBy(check, 1, 2, 25, 18, 1);
        movedBy(check, 2, 2, 25, 18, 1);
        movedBy(check, 3, 2, 26, 18, 0);
        movedBy(check, 20, 19, 29, 15, 0);
        movedBy(check, 20, 20, 25, 14, 5);
    }

    private static void heightWithWhichItCameIn(Check check) {
        check.begin("promise 8, the height with which it came in decides at each cell");
        BeachBars x = lowShoal(19);
        x.dump(0, 11, 18);
        x.wave(0, 8);
        check.due("run(0)", x.run(0), 2);
        Beaches.heights(check, x, 0, 9, 25, 18, 17, 2, 0);
        check.due("ended(0, 6)", x.ended(0, 6), 3);
        BeachBars y = lowShoal(16);
        y.dump(0, 11, 18);
        y.wave(0, 7);
        check.due("run(0)", y.run(0), 2);
        Beaches.heights(check, y, 0, 9, 26, 17, 16, 0);
        check.due("ended(0, 6)", y.ended(0, 6), 3);
        check.due("ended(0, 3)", y.ended(0, 3), 9);
    }

    private static BeachBars shoalAt19(int height) {
        BeachBars x = lowShoal(0);
        x.dump(0, 19, 10);
        x.wave(0, height);
        return x;
    }

    private static void from19(Check check) {
        check.begin("promise 8, from the cell 19 into the deep, or to the cell 18");
        BeachBars x = shoalAt19(12);
        check.due("run(0) of 12", x.run(0), 1);
        check.due("count(1)", x.count(1), 3);
        check.due("count(2)", x.count(2), 0);
        Beaches.heights(check, x, 0, 18, 0, 7);
        BeachBars y = shoalAt19(12);
        y.set(0, 13);
        check.due("run(0) of 12, setting 13", y.run(0), 1);
        check.due("count(1)", y.count(1), 0);
        Beaches.heights(check, y, 0, 18, 3, 7);
        check.due("ended(0, 2)", y.ended(0, 2), 19);
    }

    private static BeachBars shoalAt0(int depth, int height) {
        BeachBars x = new BeachBars();
        x.setLevel(70);
        x.dump(0, 0, 70 - depth);
        x.wave(0, height);
        return x;
    }

    private static void from0(Check check) {
        check.begin("promise 8, from the cell 0 to the dune, or to the cell 1");
        BeachBars x = shoalAt0(1, 7);
        check.due("run(0) of 7", x.run(0), 1);
        check.due("count(2)", x.count(2), 2);
        check.due("count(1)", x.count(1), 0);
        Beaches.heights(check, x, 0, 0, 67, 57);
        check.due("count(0)", x.count(0), 2520 + 9 - 2);
        check.due("ended(0, 2)", x.ended(0, 2), 0);
        check.due("ended(0, 3)", x.ended(0, 3), -1);
        check.due("ended(0, 4)", x.ended(0, 4), 3);
        BeachBars y = shoalAt0(1, 8);
        check.due("run(0) of 8", y.run(0), 1);
        check.due("count(2)", y.count(2), 0);
        Beaches.heights(check, y, 0, 0, 67, 59, 54);
        check.due("ended(0, 3)", y.ended(0, 3), -1);
    }

    private static void passesTheCell0(Check check) {
        check.begin("promise 8, a wave that has passed the cell 0 ends at the dune");
        int[][] dueByDepth = {{0, NONE, 0, 1, 0}, {1, 0, -1, 3, 1}, {4, 0, -1, 3, 1}, {5, NONE, -1, 3, 0}};
        for (int[] due : dueByDepth) {
            BeachBars x = shoalAt0(due[0], 5);
            check.due("run(0) at " + due[0], x.run(0), due[4]);
            check.due("ended(0, 2) at " + due[0], x.ended(0, 2), due[1]);
            check.due("ended(0, 3) at " + due[0], x.ended(0, 3), due[2]);
            check.due("ended(0, 4) at " + due[0], x.ended(0, 4), due[3]);
            check.due("ended(0, 5) at " + due[0], x.ended(0, 5), due[4]);
        }
    }

    /** A beach whose cell 5 is nearly full, at the level 70, with 96 units in the cell 6. */
    private static BeachBars nearlyFull(int height) {
        BeachBars x = new BeachBars();
        x.setLevel(70);
        x.set(3, 30);
        Beaches.shape(x, 1, 4, 70, height, 96, 70, 41);
        x.wave(1, 5);
        return x;
    }

    private static void takesUpTo99(Check check) {
        check.begin("promise 8, a cell takes no more than up to 99");
        for (int height = 96; height <= 99; height++) {
            int taken = Math.min(2, 99 - height);
            BeachBars x = nearlyFull(height);
            check.due("would(1, 5, 4), dry without a surge", x.would(1, 5, 4), 1);
            int breaks = height == 96 ? 1 : 0;
            check.due("run(29) at " + height, x.run(29), 1 + breaks);
            check.due("ended(0, 2) at " + height, x.ended(0, 2), 6);
            check.due("ended(0, 6) at " + height, x.ended(0, 6), taken + breaks);
            Beaches.heights(check, x, 1, 4, 70 + breaks, height + taken - breaks, 96 - taken, 70);
            // Only with 97 units at the end is the cell 5 under water then, and a bar between two gaps.
            check.due("count(7)", x.count(7), 2 * breaks);
            check.due("count(8)", x.count(8), 0);
        }
    }

    private static void staysWhereItWas(Check check) {
        check.begin("promise 8, what a full cell does not take stays where it was");
        BeachBars x = new BeachBars();
        x.setLevel(70);
        x.set(3, 30);
        Beaches.shape(x, 2, 4, 70, 99, 99, 70, 41);
        int all = x.count(0);
        x.wave(2, 2);
        check.due("run(30)", x.run(30), 1);
        int[] facts = {2, 2, 6, -1, 3, 1, 0};
        for (int what = 0; what <= 6; what++) {
            check.due("ended(0, " + what + ")", x.ended(0, what), facts[what]);
        }
        Beaches.heights(check, x, 2, 4, 70, 99, 99, 70, 41);
        check.due("count(0)", x.count(0), all);
        check.due("count(6), it broke all the same", x.count(6), 1);
    }

    private static void halfRoundedDown(Check check) {
        check.begin("promise 19, then its height is half of what it was, rounded down");
        for (int height = 2; height <= 20; height++) {
            BeachBars x = shoal(1);
            x.set(0, 1);
            x.dump(0, 8, DEEP);
            x.dump(0, 9, DEEP - height / 2);
            would(check, x, height, 10, 8, 1, 1);
            if (height >= 4) {
                x.dump(0, 9, DEEP - height / 2 + 1);
                would(check, x, height, 10, 8, 1, 2);
            }
        }
    }

    private static void onceAtEachCell(Check check) {
        check.begin("promise 19, a wave breaks at most once at each cell");
        would(check, shoal(1), 20, 10, 9, 1, 1, 5);
        BeachBars x = shoal(1);
        x.set(0, 1);
        Beaches.shape(x, 0, 6, DEEP, DEEP - 1, DEEP - 1, DEEP - 1);
        would(check, x, 20, 10, 6, 1, 4, 5 + 3 + 2 + 1);
        x.dump(0, 6, DEEP - 1);
        x.dump(0, 5, DEEP);
        would(check, x, 20, 10, 5, 1, 4, 5 + 3 + 2 + 1);
    }

    private static void neverSpent(Check check) {
        check.begin("promise 19, a wave that broke is 1 high at least, so that the reason 2 can't come about");
        for (int depth = 1; depth <= 19; depth++) {
            BeachBars x = shoal(depth);
            for (int height = 1; height <= 20; height++) {
                check.due("would(0, " + height + ", 4) at " + depth, x.would(0, height, 4), 1);
                check.due("would(1, " + height + ", 4)", x.would(1, height, 4), 3);
            }
        }
        would(check, shoal(1), 1, NONE, 9, 1, 0, 0);
        would(check, shoal(1), 2, 10, 9, 1, 1, 1);
        would(check, shoal(1), 3, 10, 9, 1, 1, 1);
    }

    private static void surgeToTheHighestWater(Check check) {
        check.begin("promise 8, the level and the surge at their greatest: 100");
        for (int surge = 28; surge <= 30; surge++) {
            BeachBars x = new BeachBars();
            x.setLevel(70);
            x.dump(3, 10, 99);
            x.wave(3, 1);
            check.due("run(" + surge + ")", x.run(surge), 0);
            check.due("ended(0, 3) at " + surge, x.ended(0, 3), surge == 30 ? -1 : 10);
            check.due("ended(0, 4) at " + surge, x.ended(0, 4), surge == 30 ? 3 : 1);
        }
        BeachBars y = new BeachBars();
        y.setLevel(20);
        y.dump(3, 10, 20);
        y.wave(3, 1);
        check.due("run(0) at the lowest water", y.run(0), 0);
        check.due("ended(0, 3)", y.ended(0, 3), 13);
        BeachBars z = new BeachBars();
        z.setLevel(20);
        z.dump(3, 16, 20);
        z.wave(3, 1);
        z.run(0);
        check.due("ended(0, 3), dry farther out", z.ended(0, 3), 16);
    }

    private static void surgeIsOverThen(Check check) {
        check.begin("promise 8, the surge holds for rips, and is over then");
        int[] scoured = {0, 2};
        for (int surge = 0; surge <= 1; surge++) {
            BeachBars x = new BeachBars();
            x.set(3, 30);
            x.dump(1, 12, 40);
            x.wave(3, 1);
            check.due("run(" + surge + ")", x.run(surge), 0);
            check.due("count(7) with " + surge, x.count(7), scoured[surge]);
            Beaches.heights(check, x, 0, 12, 24 - surge, 21 + surge);
            Beaches.heights(check, x, 2, 12, 24 - surge, 21 + surge);
            check.due("count(10)", x.count(10), 40);
            check.due("cell(1, 12, 1)", x.cell(1, 12, 1), 0);
            check.due("cell(1, 12, 2)", x.cell(1, 12, 2), 0);
            check.due("settle()", x.settle(), NONE);
        }
    }

    private static void ofSeveralAsTheyCame(Check check) {
        check.begin("promise 8, of several of one height as they came");
        for (int sorting = 0; sorting <= 2; sorting++) {
            BeachBars x = new BeachBars();
            x.set(1, sorting);
            Beaches.waves(x, "3h1,1h1,2h1,0h1,2h1,3h1");
            x.run(0);
            int[] rows = {3, 1, 2, 0, 2, 3};
            for (int place = 0; place < 6; place++) {
                check.due("ended(" + place + ", 0) by " + sorting, x.ended(place, 0), rows[place]);
            }
        }
        for (int sorting = 0; sorting <= 2; sorting++) {
            BeachBars x = new BeachBars();
            x.set(1, sorting);
            for (int wave = 0; wave < 24; wave++) {
                x.wave(wave % 4, wave < 12 ? 1 : 20);
            }
            x.run(30);
            for (int place = 0; place < 24; place++) {
                boolean high = sorting == 1 ? place < 12 : place >= 12;
                check.due("ended(" + place + ", 0) of 24", x.ended(place, 0), place % 4);
                check.due("ended(" + place + ", 1) of 24", x.ended(place, 1), high ? 20 : 1);
            }
        }
    }

    private static void waitingIsNotSorted(Check check) {
        check.begin("promise 17, the waves that wait are told as they came");
        for (int sorting = 0; sorting <= 2; sorting++) {
            BeachBars x = new BeachBars();
            x.set(1, sorting);
            Beaches.waves(x, "0h20,1h1,2h10");
            int[] heights = {20, 1, 10, NONE};
            int[] rows = {0, 1, 2, NONE};
            for (int place = 0; place <= 3; place++) {
                check.due("waiting(" + place + ", true)", x.waiting(place, true), heights[place]);
                check.due("waiting(" + place + ", false)", x.waiting(place, false), rows[place]);
            }
        }
    }

    private static void fullWith24(Check check) {
        check.begin("promise 5, FULL if 24 wait");
        BeachBars x = new BeachBars();
        Beaches.waves(x, "0h5x9,1h6x9,2h7x5");
        check.due("count(9)", x.count(9), 23);
        check.due("wave(3, 20), the 24th", x.wave(3, 20), 24);
        check.due("wave(3, 19), the 25th", x.wave(3, 19), FULL);
        check.due("count(9)", x.count(9), 24);
        check.due("count(18)", x.count(18), 2);
        check.due("waiting(23, true)", x.waiting(23, true), 20);
        check.due("waiting(24, true)", x.waiting(24, true), NONE);
        check.due("strike(6, 6)", x.strike(6, 6), 9);
        check.due("wave(3, 19) where there is room", x.wave(3, 19), 16);
        check.due("waiting(14, true)", x.waiting(14, true), 20);
        check.due("waiting(15, true)", x.waiting(15, true), 19);
    }

    private static void allOrNone(Check check) {
        check.begin("promise 6, all of the waves, or none");
        BeachBars x = new BeachBars();
        Beaches.waves(x, "0h5x9,1h6x9,2h7x5");
        check.due("2 more than 23", Beaches.waves(x, "3h9x2"), FULL);
        check.due("2 groups more than 23", Beaches.waves(x, "3h9,3h8"), FULL);
        check.due("count(9)", x.count(9), 23);
        check.due("waiting(23, true)", x.waiting(23, true), NONE);
        check.due("count(18)", x.count(18), 1);
        check.due("count(19), the text stays", x.count(19), 7);
        check.due("1 more than 23", Beaches.waves(x, "3h9"), 1);
        check.due("waiting(23, true)", x.waiting(23, true), 9);
        check.due("1 more than 24", x.waveAll(), FULL);
        check.due("undo(), one act", x.undo(), 1);
        check.due("count(9)", x.count(9), 23);
        check.due("undo(), one act", x.undo(), 0);
        check.due("count(9)", x.count(9), 0);
    }

    private static void strikesTheEnds(Check check) {
        check.begin("promise 7, the least and the greatest height are struck out too");
        BeachBars x = new BeachBars();
        Beaches.waves(x, "0h1,1h2,2h9,3h10,0h11,1h12,2h19,3h20");
        check.due("strike(10, 11)", x.strike(10, 11), 2);
        check.due("strike(1, 1)", x.strike(1, 1), 1);
        check.due("strike(20, 20)", x.strike(20, 20), 1);
        int[] left = {2, 9, 12, 19, NONE};
        for (int place = 0; place < left.length; place++) {
            check.due("waiting(" + place + ", true)", x.waiting(place, true), left[place]);
        }
        check.due("strike(10, 11)", x.strike(10, 11), NONE);
        check.due("strike(3, 8)", x.strike(3, 8), NONE);
        check.due("strike(2, 19)", x.strike(2, 19), 4);
        check.due("count(9)", x.count(9), 0);
    }

    private static void strikesAllAndNone(Check check) {
        check.begin("promise 7, all of 24 waves, and none");
        BeachBars x = new BeachBars();
        check.due("strike(1, 20) where none waits", x.strike(1, 20), NONE);
        check.due("count(18)", x.count(18), 0);
        Beaches.waves(x, "0h5x9,1h6x9,2h7x6");
        check.due("strike(5, 7)", x.strike(5, 7), 24);
        check.due("count(9)", x.count(9), 0);
        check.due("strike(5, 7)", x.strike(5, 7), NONE);
        check.due("run(0)", x.run(0), NONE);
        check.due("count(18)", x.count(18), 2);
        check.due("undo()", x.undo(), 1);
        check.due("count(9)", x.count(9), 24);
        check.due("waiting(23, true)", x.waiting(23, true), 7);
    }

    private static void runThatBreaksNothing(Check check) {
        check.begin("promise 8, waves that do not break: 0, which is not NONE");
        BeachBars x = new BeachBars();
        x.wave(0, 1);
        check.due("run(0)", x.run(0), 0);
        check.due("count(5)", x.count(5), 1);
        check.due("count(6)", x.count(6), 0);
        check.due("count(9)", x.count(9), 0);
        check.due("count(18)", x.count(18), 2);
        check.due("ended(0, 2)", x.ended(0, 2), NONE);
        check.due("run(0) once more", x.run(0), NONE);
        check.due("count(18)", x.count(18), 2);
        check.due("ended(0, 1), as it was", x.ended(0, 1), 1);
        check.due("undo()", x.undo(), 1);
        check.due("count(9)", x.count(9), 1);
        check.due("ended(0, 0), before it ran", x.ended(0, 0), NONE);
    }

    private static void endedUpToThe24th(Check check) {
        check.begin("promise 18, up to the 24th wave");
        BeachBars x = new BeachBars();
        Beaches.waves(x, "0h1x9,1h1x9,2h2x6");
        x.run(0);
        check.due("ended(0, 0)", x.ended(0, 0), 0);
        check.due("ended(23, 0)", x.ended(23, 0), 2);
        check.due("ended(23, 1)", x.ended(23, 1), 2);
        for (int what = 0; what <= 6; what++) {
            check.due("ended(24, " + what + ")", x.ended(24, what), NONE);
        }
        check.due("count(5)", x.count(5), 24);
        x.wave(3, 3);
        x.run(0);
        check.due("ended(0, 0), of those that ran last", x.ended(0, 0), 3);
        check.due("ended(1, 0), of those that ran last", x.ended(1, 0), NONE);
        check.due("count(5)", x.count(5), 25);
    }

    private static void wouldWhileTheRowIsFull(Check check) {
        check.begin("promise 19, a wave that would run while 24 wait");
        BeachBars x = new BeachBars();
        Beaches.waves(x, "0h5x9,1h6x9,2h7x6");
        would(check, x, 5, 8, 7, 1, 1, 2);
        check.due("count(9)", x.count(9), 24);
        check.due("count(5)", x.count(5), 0);
        check.due("count(6)", x.count(6), 0);
        check.due("ended(0, 0)", x.ended(0, 0), NONE);
        check.due("cell(0, 7, 0)", x.cell(0, 7, 0), 39);
    }

    private static void wouldIsWithoutASurge(Check check) {
        check.begin("promise 19, without a surge, also after a storm");
        BeachBars x = new BeachBars();
        x.wave(1, 1);
        check.due("run(30)", x.run(30), 0);
        would(check, x, 5, 8, 7, 1, 1, 2);
        would(check, x, 1, NONE, 6, 1, 0, 0);
    }
}
