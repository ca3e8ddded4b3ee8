import java.util.List;

/** run: how waves go, in what order, and what follows them. */
final class Promise08Test {
    private static final int BAD_VALUE = -1002;
    private static final int NONE = -1005;
    private static final int MIN = Integer.MIN_VALUE;
    private static final int MAX = Integer.MAX_VALUE;

    private Promise08Test() {
    }

    static void test(Check check) {
        lowWave(check);
        highWave(check);
        settingDecides(check);
        intoTheDeep(check);
        toTheDune(check);
        ontoTheFirstCell(check);
        aCellTakesUpTo99(check);
        aCellGivesWhatItHas(check);
        lowestWaveNeverBreaks(check);
        sorting(check);
        sortingTwice(check);
        laterWavesMeetMovedSand(check);
        surgeHoldsForWaves(check);
        surgeHoldsForRips(check);
        ripsAndSlumpingFollow(check);
        counts(check);
        refuses(check);
        isAnAct(check);
    }

    private static void ended(Check check, BeachBars x, int place, int... facts) {
        for (int what = 0; what < facts.length; what++) {
            check.due("ended(" + place + ", " + what + ")", x.ended(place, what), facts[what]);
        }
    }

    private static void lowWave(Check check) {
        check.begin("promise 8, a low wave moves sand to the shore");
        BeachBars x = new BeachBars();
        x.wave(1, 7);
        check.due("run(0)", x.run(0), 1);
        ended(check, x, 0, 1, 7, 8, 7, 1, 1, 2);
        Beaches.heights(check, x, 1, 6, 42, 41, 34, 33);
        check.due("count(0)", x.count(0), 2520);
        check.due("count(9)", x.count(9), 0);
    }

    private static void highWave(Check check) {
        check.begin("promise 8, a high wave moves sand out to sea");
        BeachBars x = new BeachBars();
        x.wave(2, 8);
        check.due("run(0)", x.run(0), 2);
        ended(check, x, 0, 2, 8, 9, 6, 1, 2, 3);
        Beaches.heights(check, x, 2, 6, 42, 38, 37, 31, 32, 27);
        check.due("cell(2, 10, 2)", x.cell(2, 10, 2), 1);
    }

    private static void settingDecides(Check check) {
        check.begin("promise 8, the setting 0");
        BeachBars x = new BeachBars();
        x.set(0, 9);
        x.wave(2, 8);
        check.due("run(0)", x.run(0), 2);
        ended(check, x, 0, 2, 8, 9, 7, 1, 2, 3);
        Beaches.heights(check, x, 2, 7, 40, 37, 31);
        BeachBars y = new BeachBars();
        y.set(0, 9);
        y.dump(0, 8, 35);
        y.wave(0, 8);
        check.due("run(0)", y.run(0), 2);
        ended(check, y, 0, 0, 8, 9, 7, 1, 2, 3);
        Beaches.heights(check, y, 0, 7, 40, 36, 31);
        BeachBars z = new BeachBars();
        z.set(0, 5);
        z.wave(0, 5);
        check.due("run(0)", z.run(0), 2);
        ended(check, z, 0, 0, 5, 8, 6, 1, 2, 3);
        Beaches.heights(check, z, 0, 6, 42, 38, 35, 35, 30);
    }

    private static void intoTheDeep(Check check) {
        check.begin("promise 8, into the deep");
        BeachBars x = new BeachBars();
        x.setLevel(20);
        x.dump(0, 19, 15);
        x.wave(0, 20);
        check.due("run(0)", x.run(0), 3);
        ended(check, x, 0, 0, 20, 19, 13, 1, 3, 10);
        Beaches.heights(check, x, 0, 13, 21, 16, 17, 9, 12, 6, 10);
        check.due("count(1)", x.count(1), 5);
        check.due("count(2)", x.count(2), 0);
        check.due("count(0)", x.count(0), 2520 + 12 - 5);
        check.due("count(7)", x.count(7), 1);
        check.due("count(8)", x.count(8), 0);
        Beaches.heights(check, x, 1, 16, 12, 8, 7, 3);
    }

    private static void toTheDune(Check check) {
        check.begin("promise 8, to the dune");
        BeachBars x = new BeachBars();
        x.setLevel(70);
        x.dump(0, 0, 66);
        x.wave(0, 5);
        x.wave(1, 5);
        check.due("run(0)", x.run(0), 1);
        ended(check, x, 0, 0, 5, 0, -1, 3, 1, 2);
        ended(check, x, 1, 1, 5, NONE, -1, 3, 0, 0);
        check.due("cell(0, 0, 0)", x.cell(0, 0, 0), 64);
        check.due("count(2)", x.count(2), 2);
        check.due("count(1)", x.count(1), 0);
        check.due("count(0)", x.count(0), 2520 + 6 - 2);
    }

    private static void ontoTheFirstCell(Check check) {
        check.begin("promise 8, from the cell 1 to the cell 0");
        BeachBars x = new BeachBars();
        x.setLevel(61);
        x.wave(1, 5);
        check.due("run(0)", x.run(0), 1);
        ended(check, x, 0, 1, 5, 1, 0, 1, 1, 2);
        Beaches.heights(check, x, 1, 0, 62, 55);
        check.due("count(2)", x.count(2), 0);
    }

    private static void aCellTakesUpTo99(Check check) {
        check.begin("promise 8, a cell takes no more than up to 99");
        BeachBars x = new BeachBars();
        x.setLevel(70);
        x.set(3, 30);
        Beaches.shape(x, 0, 5, 98, 66);
        x.wave(0, 7);
        check.due("run(0)", x.run(0), 1);
        ended(check, x, 0, 0, 7, 6, 5, 1, 1, 1);
        Beaches.heights(check, x, 0, 4, 58, 88, 66, 39);
        check.due("count(8)", x.count(8), 11);
        BeachBars y = new BeachBars();
        y.setLevel(70);
        y.set(3, 30);
        Beaches.shape(y, 3, 5, 99, 66);
        y.wave(3, 7);
        check.due("run(0)", y.run(0), 1);
        ended(check, y, 0, 3, 7, 6, 5, 1, 1, 0);
    }

    private static void aCellGivesWhatItHas(Check check) {
        check.begin("promise 8, a cell gives what it has");
        BeachBars x = new BeachBars();
        x.setLevel(20);
        x.dump(0, 19, 1);
        x.wave(0, 20);
        check.due("run(0)", x.run(0), 3);
        ended(check, x, 0, 0, 20, 19, 13, 1, 3, 1 + 3 + 2);
        check.due("count(1)", x.count(1), 1);
        BeachBars y = new BeachBars();
        y.setLevel(20);
        y.dump(0, 18, 2);
        y.wave(0, 19);
        check.due("run(0)", y.run(0), 3);
        Beaches.heights(check, y, 0, 18, 2, 0);
        check.due("count(1)", y.count(1), 3);
        BeachBars z = new BeachBars();
        z.setLevel(20);
        z.dump(0, 19, 0);
        z.wave(0, 20);
        check.due("run(0)", z.run(0), 3);
        ended(check, z, 0, 0, 20, 18);
        BeachBars empty = new BeachBars();
        empty.setLevel(20);
        empty.set(3, 30);
        Beaches.shape(empty, 0, 13, 0, 0, 0, 0, 0, 0, 2);
        empty.wave(0, 20);
        empty.set(0, 20);
        check.due("run(0)", empty.run(0), 1);
        ended(check, empty, 0, 0, 20, 19, 12, 1, 1, 2);
    }

    private static void lowestWaveNeverBreaks(Check check) {
        check.begin("promise 8, a wave of the height 1");
        BeachBars x = new BeachBars();
        x.dump(0, 7, 39);
        x.wave(0, 1);
        x.wave(0, 2);
        check.due("run(0)", x.run(0), 1);
        ended(check, x, 0, 0, 1, NONE, 6, 1, 0, 0);
        ended(check, x, 1, 0, 2, 7, 6, 1, 1, 1);
        Beaches.heights(check, x, 0, 6, 43, 38);
    }

    private static void sorting(Check check) {
        check.begin("promise 8, sorting");
        int[][] orders = {
            {0, 5, 1, 9, 2, 5, 3, 9, 0, 12, 1, 5},
            {0, 12, 1, 9, 3, 9, 0, 5, 2, 5, 1, 5},
            {0, 5, 2, 5, 1, 5, 1, 9, 3, 9, 0, 12}};
        for (int sorting = 0; sorting <= 2; sorting++) {
            BeachBars x = new BeachBars();
            x.set(1, sorting);
            Beaches.waves(x, "0h5,1h9,2h5,3h9,0h12,1h5");
            check.due("waiting(0, true)", x.waiting(0, true), 5);
            check.due("waiting(1, true)", x.waiting(1, true), 9);
            x.run(0);
            for (int place = 0; place < 6; place++) {
                ended(check, x, place, orders[sorting][2 * place], orders[sorting][2 * place + 1]);
            }
            check.due("ended(6, 0)", x.ended(6, 0), NONE);
        }
    }

    private static void sortingTwice(Check check) {
        check.begin("promise 8, sorting once more");
        BeachBars x = new BeachBars();
        x.set(1, 1);
        Beaches.waves(x, "0h3,1h4,2h5");
        x.run(30);
        check.due("ended(0, 0)", x.ended(0, 0), 2);
        check.due("ended(2, 0)", x.ended(2, 0), 0);
        Beaches.waves(x, "3h6,0h2");
        x.run(30);
        check.due("ended(0, 0)", x.ended(0, 0), 3);
        check.due("ended(1, 0)", x.ended(1, 0), 0);
        x.wave(1, 9);
        x.run(30);
        check.due("ended(0, 0)", x.ended(0, 0), 1);
    }

    private static void laterWavesMeetMovedSand(Check check) {
        check.begin("promise 8, later waves meet moved sand");
        BeachBars x = new BeachBars();
        x.wave(0, 7);
        x.wave(0, 7);
        check.due("run(0)", x.run(0), 2);
        ended(check, x, 0, 0, 7, 8, 7, 1, 1, 2);
        ended(check, x, 1, 0, 7, 8, 7, 1, 1, 2);
        Beaches.heights(check, x, 0, 7, 43, 32, 33);
        x.wave(0, 7);
        check.due("run(0)", x.run(0), 0);
        ended(check, x, 0, 0, 7, NONE, 7, 1, 0, 0);
        check.due("ended(1, 0)", x.ended(1, 0), NONE);
    }

    private static void surgeHoldsForWaves(Check check) {
        check.begin("promise 8, a surge carries waves further");
        BeachBars x = new BeachBars();
        x.wave(0, 7);
        check.due("run(30)", x.run(30), 0);
        ended(check, x, 0, 0, 7, NONE, -1, 3, 0, 0);
        check.due("count(10)", x.count(10), 40);
        check.due("count(17)", x.count(17), 28);
        x.wave(0, 7);
        check.due("run(1)", x.run(1), 1);
        ended(check, x, 0, 0, 7, 8, 7, 1, 1, 2);
        x.wave(1, 5);
        check.due("run(1)", x.run(1), 1);
        ended(check, x, 0, 1, 5, 7, 6, 1, 1, 2);
    }

    private static void surgeHoldsForRips(Check check) {
        check.begin("promise 8, a surge makes bars and gaps");
        BeachBars x = new BeachBars();
        x.dump(2, 5, 55);
        check.due("count(15)", x.count(15), 0);
        x.wave(0, 1);
        check.due("run(30)", x.run(30), 0);
        check.due("count(7)", x.count(7), 2);
        check.due("count(8)", x.count(8), 1);
        Beaches.heights(check, x, 1, 5, 44, 43);
        Beaches.heights(check, x, 3, 5, 44, 43);
        Beaches.heights(check, x, 2, 5, 54, 43);
        BeachBars y = new BeachBars();
        y.dump(2, 5, 55);
        y.wave(0, 1);
        check.due("run(0)", y.run(0), 0);
        check.due("count(7)", y.count(7), 0);
        check.due("count(8)", y.count(8), 1);
    }

    private static void ripsAndSlumpingFollow(Check check) {
        check.begin("promise 8, rips and slumping follow");
        BeachBars x = new BeachBars();
        x.set(2, 2);
        x.wave(0, 8);
        check.due("run(0)", x.run(0), 2);
        check.due("count(7)", x.count(7), 1);
        check.due("count(8)", x.count(8), 0);
        Beaches.heights(check, x, 1, 9, 33, 29, 28);
        BeachBars y = new BeachBars();
        y.set(3, 4);
        y.wave(0, 7);
        check.due("run(0)", y.run(0), 1);
        check.due("count(8)", y.count(8), 2);
        Beaches.heights(check, y, 0, 6, 42, 39, 36, 33);
    }

    private static void counts(Check check) {
        check.begin("promise 8, what is counted");
        BeachBars x = new BeachBars();
        Beaches.waves(x, "0h7x2,1h8");
        check.due("run(0)", x.run(0), 4);
        check.due("count(5)", x.count(5), 3);
        check.due("count(6)", x.count(6), 4);
        x.wave(3, 2);
        check.due("run(0)", x.run(0), 1);
        check.due("count(5)", x.count(5), 4);
        check.due("count(6)", x.count(6), 5);
    }

    private static void refuses(Check check) {
        check.begin("promise 8, run refuses");
        BeachBars x = new BeachBars();
        for (int surge : new int[] {-1, 31, MIN, MAX}) {
            check.due("run(" + surge + ") without waves", x.run(surge), BAD_VALUE);
        }
        x.dump(0, 5, 90);
        List<Integer> first = Beaches.all(x);
        check.due("run(0)", x.run(0), NONE);
        check.due("run(30)", x.run(30), NONE);
        check.holds("nothing is changed", Beaches.all(x).equals(first));
        x.wave(0, 5);
        List<Integer> second = Beaches.all(x);
        check.due("run(31)", x.run(31), BAD_VALUE);
        check.due("run(-1)", x.run(-1), BAD_VALUE);
        check.holds("nothing is changed", Beaches.all(x).equals(second));
    }

    private static void isAnAct(Check check) {
        check.begin("promise 8, run is an act");
        BeachBars x = new BeachBars();
        x.wave(1, 9);
        x.wave(0, 1);
        List<Integer> first = Beaches.state(x);
        x.run(3);
        check.due("count(18)", x.count(18), 3);
        check.due("undo()", x.undo(), 2);
        check.holds("all is as it was", Beaches.state(x).equals(first));
    }
}
