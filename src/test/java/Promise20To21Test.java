/** sand and count. */
final class Promise20To21Test {
    private static final int UNKNOWN = -1001;
    private static final int BAD_VALUE = -1002;
    private static final int NONE = -1005;
    private static final int MIN = Integer.MIN_VALUE;
    private static final int MAX = Integer.MAX_VALUE;

    private Promise20To21Test() {
    }

    static void test(Check check) {
        sand(check);
        sandRefuses(check);
        counts(check);
        accountsAddUp(check);
        everyRowCounts(check);
        countRefuses(check);
    }

    private static void sand(Check check) {
        check.begin("promise 20, sand");
        BeachBars x = new BeachBars();
        check.due("sand(0, 19)", x.sand(0, 19), 2520);
        check.due("sand(0, 0)", x.sand(0, 0), 240);
        check.due("sand(19, 19)", x.sand(19, 19), 12);
        check.due("sand(18, 19)", x.sand(18, 19), 36);
        check.due("sand(0, 1)", x.sand(0, 1), 468);
        x.dump(0, 7, 0);
        x.dump(3, 8, 99);
        check.due("sand(7, 7)", x.sand(7, 7), 3 * 39);
        check.due("sand(8, 8)", x.sand(8, 8), 3 * 36 + 99);
        check.due("sand(7, 8)", x.sand(7, 8), 3 * 39 + 3 * 36 + 99);
        check.due("sand(9, 10)", x.sand(9, 10), 4 * 63);
    }

    private static void sandRefuses(Check check) {
        check.begin("promise 20, sand refuses");
        BeachBars x = new BeachBars();
        for (int wrong : new int[] {-1, 20, MIN, MAX}) {
            check.due("sand(" + wrong + ", 5)", x.sand(wrong, 5), UNKNOWN);
            check.due("sand(5, " + wrong + ")", x.sand(5, wrong), UNKNOWN);
        }
        check.due("sand(1, 0)", x.sand(1, 0), BAD_VALUE);
        check.due("sand(19, 0)", x.sand(19, 0), BAD_VALUE);
    }

    private static void counts(Check check) {
        check.begin("promise 21, count");
        BeachBars x = new BeachBars();
        x.dump(2, 12, 33);
        x.dump(0, 3, 40);
        x.set(0, 9);
        x.set(1, 1);
        x.set(2, 4);
        x.set(3, 14);
        x.setLevel(41);
        Beaches.waves(x, "0h2x3");
        int[] due = {2520 + 9 - 11, 0, 0, 9, 11, 0, 0, 0, 0, 3, 41, 9, 1, 4, 14, 1, 2, 27, 4, 5};
        for (int what = 0; what < due.length; what++) {
            check.due("count(" + what + ")", x.count(what), due[what]);
        }
        x.run(0);
        check.due("count(5)", x.count(5), 3);
        check.due("count(6)", x.count(6), 0);
        check.due("count(7)", x.count(7), 2);
        check.due("count(8)", x.count(8), 0);
        check.due("count(9)", x.count(9), 0);
        check.due("ended(0, 2)", x.ended(0, 2), NONE);
    }

    private static void accountsAddUp(Check check) {
        check.begin("promise 21, the accounts of sand add up");
        BeachBars x = new BeachBars();
        x.set(3, 9);
        for (int turn = 0; turn < 12; turn++) {
            x.dump(turn % 4, turn * 5 % 20, turn * 37 % 100);
            x.dump(2, 0, 66);
            x.setLevel(turn < 6 ? 20 : 70);
            Beaches.waves(x, turn % 2 == 0 ? "0h20x9,1h20x9" : "2h7x9,3h13x9");
            x.run(turn < 6 ? turn : 0);
            x.settle();
            int due = 2520 + x.count(3) - x.count(4) - x.count(1) - x.count(2);
            check.due("count(0) in turn " + turn, x.count(0), due);
            check.due("sand(0, 19) in turn " + turn, x.sand(0, 19), due);
            check.due("count(5) in turn " + turn, x.count(5), 18 * (turn + 1));
        }
        check.holds("sand went into the deep", x.count(1) > 0);
        check.holds("sand went to the dune", x.count(2) > 0);
        check.holds("rips scoured", x.count(7) > 0);
        check.holds("sand slumped", x.count(8) > 0);
    }

    private static void everyRowCounts(Check check) {
        check.begin("promise 21, every row counts");
        for (int row = 0; row < 4; row++) {
            BeachBars x = new BeachBars();
            x.dump(row, 12, 30);
            check.due("count(15)", x.count(15), 1);
            check.due("count(16)", x.count(16), row == 0 || row == 3 ? 1 : 2);
            x.dump(row, 12, 40);
            check.due("count(15)", x.count(15), 0);
            check.due("count(16)", x.count(16), 0);
            check.due("count(17)", x.count(17), 29);
        }
        BeachBars y = new BeachBars();
        for (int row = 0; row < 4; row++) {
            y.dump(row, 5 + row, 20);
        }
        check.due("count(15)", y.count(15), 3);
        check.due("count(17)", y.count(17), 26);
    }

    private static void countRefuses(Check check) {
        check.begin("promise 21, count refuses");
        BeachBars x = new BeachBars();
        for (int what : new int[] {-1, 20, 21, MIN, MAX}) {
            check.due("count(" + what + ")", x.count(what), BAD_VALUE);
        }
    }
}
