import java.util.List;

/** A new object, dump, setLevel and set. */
final class Promise01To04Test {
    private static final int UNKNOWN = -1001;
    private static final int BAD_VALUE = -1002;
    private static final int NONE = -1005;
    private static final int MIN = Integer.MIN_VALUE;
    private static final int MAX = Integer.MAX_VALUE;

    private Promise01To04Test() {
    }

    static void test(Check check) {
        newObject(check);
        objectsAreApart(check);
        dump(check);
        dumpAtTheEdges(check);
        dumpRefuses(check);
        setLevel(check);
        set(check);
        setRefuses(check);
    }

    private static void newObject(Check check) {
        check.begin("promise 1, a new object");
        BeachBars x = new BeachBars();
        for (int row = 0; row < 4; row++) {
            for (int cell = 0; cell < 20; cell++) {
                check.due("cell(" + row + ", " + cell + ", 0)", x.cell(row, cell, 0), 60 - 3 * cell);
            }
        }
        int[] counts = {2520, 0, 0, 0, 0, 0, 0, 0, 0, 0, 40, 8, 0, 3, 12, 0, 0, 28, 0, 0};
        for (int what = 0; what < counts.length; what++) {
            check.due("count(" + what + ")", x.count(what), counts[what]);
        }
        check.due("waiting(0, true)", x.waiting(0, true), NONE);
        check.due("ended(0, 0)", x.ended(0, 0), NONE);
        check.due("undo()", x.undo(), NONE);
        check.due("restore()", x.restore(), NONE);
        check.due("run(0)", x.run(0), NONE);
        check.due("settle()", x.settle(), NONE);
        check.due("waveAll()", x.waveAll(), -2000);
        check.due("clearText()", x.clearText(), 0);
    }

    private static void objectsAreApart(Check check) {
        check.begin("promise 1, two objects");
        BeachBars x = new BeachBars();
        x.dump(0, 0, 1);
        x.set(0, 1);
        x.type('0');
        x.wave(0, 3);
        x.keep();
        BeachBars y = new BeachBars();
        check.holds("a new object is as at first", Beaches.all(y).equals(Beaches.all(new BeachBars())));
        check.due("restore()", y.restore(), NONE);
    }

    private static void dump(Check check) {
        check.begin("promise 2, dump");
        BeachBars x = new BeachBars();
        check.due("dump(1, 5, 50)", x.dump(1, 5, 50), 45);
        check.due("count(3)", x.count(3), 5);
        check.due("count(4)", x.count(4), 0);
        check.due("dump(1, 5, 20)", x.dump(1, 5, 20), 50);
        check.due("count(3)", x.count(3), 5);
        check.due("count(4)", x.count(4), 30);
        check.due("dump(1, 5, 20)", x.dump(1, 5, 20), NONE);
        check.due("count(18)", x.count(18), 2);
        check.due("cell(1, 5, 0)", x.cell(1, 5, 0), 20);
        check.due("cell(0, 5, 0)", x.cell(0, 5, 0), 45);
        check.due("cell(2, 5, 0)", x.cell(2, 5, 0), 45);
        check.due("cell(1, 4, 0)", x.cell(1, 4, 0), 48);
        check.due("cell(1, 6, 0)", x.cell(1, 6, 0), 42);
        check.due("count(0)", x.count(0), 2495);
    }

    private static void dumpAtTheEdges(Check check) {
        check.begin("promise 2, dump at the edges");
        BeachBars x = new BeachBars();
        check.due("dump(0, 0, 99)", x.dump(0, 0, 99), 60);
        check.due("dump(3, 19, 0)", x.dump(3, 19, 0), 3);
        check.due("dump(3, 0, 0)", x.dump(3, 0, 0), 60);
        check.due("dump(0, 19, 99)", x.dump(0, 19, 99), 3);
        check.due("cell(0, 0, 0)", x.cell(0, 0, 0), 99);
        check.due("cell(3, 19, 0)", x.cell(3, 19, 0), 0);
        check.due("cell(3, 0, 0)", x.cell(3, 0, 0), 0);
        check.due("cell(0, 19, 0)", x.cell(0, 19, 0), 99);
        check.due("count(3)", x.count(3), 135);
        check.due("count(4)", x.count(4), 63);
    }

    private static void dumpRefuses(Check check) {
        check.begin("promise 2, dump refuses");
        BeachBars x = new BeachBars();
        List<Integer> first = Beaches.all(x);
        for (int row : new int[] {-1, 4, MIN, MAX}) {
            check.due("dump(" + row + ", 0, 100)", x.dump(row, 0, 100), UNKNOWN);
        }
        for (int cell : new int[] {-1, 20, MIN, MAX}) {
            check.due("dump(0, " + cell + ", -1)", x.dump(0, cell, -1), UNKNOWN);
        }
        for (int height : new int[] {-1, 100, MIN, MAX}) {
            check.due("dump(0, 0, " + height + ")", x.dump(0, 0, height), BAD_VALUE);
        }
        check.due("dump(0, 0, 60)", x.dump(0, 0, 60), NONE);
        check.holds("nothing is changed", Beaches.all(x).equals(first));
    }

    private static void setLevel(Check check) {
        check.begin("promise 3, setLevel");
        BeachBars x = new BeachBars();
        List<Integer> first = Beaches.all(x);
        for (int level : new int[] {19, 71, 0, -40, MIN, MAX}) {
            check.due("setLevel(" + level + ")", x.setLevel(level), BAD_VALUE);
        }
        check.due("setLevel(40)", x.setLevel(40), NONE);
        check.holds("nothing is changed", Beaches.all(x).equals(first));
        check.due("setLevel(20)", x.setLevel(20), 40);
        check.due("count(10)", x.count(10), 20);
        check.due("count(17)", x.count(17), 56);
        check.due("cell(0, 19, 1)", x.cell(0, 19, 1), 17);
        check.due("setLevel(70)", x.setLevel(70), 20);
        check.due("setLevel(70)", x.setLevel(70), NONE);
        check.due("count(10)", x.count(10), 70);
        check.due("count(17)", x.count(17), 0);
        check.due("count(18)", x.count(18), 2);
        check.due("count(0)", x.count(0), 2520);
    }

    private static void set(Check check) {
        check.begin("promise 4, set");
        int[] first = {8, 0, 3, 12};
        int[] least = {1, 0, 1, 4};
        int[] most = {20, 2, 20, 30};
        BeachBars x = new BeachBars();
        for (int which = 0; which < 4; which++) {
            String call = "set(" + which + ", ..)";
            check.due(call + " as it is", x.set(which, first[which]), NONE);
            check.due(call + " below", x.set(which, least[which] - 1), BAD_VALUE);
            check.due(call + " above", x.set(which, most[which] + 1), BAD_VALUE);
            check.due(call + " least of all", x.set(which, MIN), BAD_VALUE);
            check.due(call + " most of all", x.set(which, MAX), BAD_VALUE);
        }
        check.due("count(18)", x.count(18), 0);
        check.due("set(1, 2)", x.set(1, 2), 0);
        check.due("set(1, 0)", x.set(1, 0), 2);
        check.due("set(0, 1)", x.set(0, 1), 8);
        check.due("set(0, 20)", x.set(0, 20), 1);
        check.due("set(2, 1)", x.set(2, 1), 3);
        check.due("set(2, 20)", x.set(2, 20), 1);
        check.due("set(3, 4)", x.set(3, 4), 12);
        check.due("set(3, 30)", x.set(3, 30), 4);
        check.due("set(3, 30)", x.set(3, 30), NONE);
        check.due("count(11)", x.count(11), 20);
        check.due("count(12)", x.count(12), 0);
        check.due("count(13)", x.count(13), 20);
        check.due("count(14)", x.count(14), 30);
        check.due("undo()", x.undo(), 3);
        check.due("count(14)", x.count(14), 4);
    }

    private static void setRefuses(Check check) {
        check.begin("promise 4, set refuses");
        BeachBars x = new BeachBars();
        List<Integer> first = Beaches.all(x);
        for (int which : new int[] {-1, 4, MIN, MAX}) {
            check.due("set(" + which + ", 5)", x.set(which, 5), BAD_VALUE);
        }
        check.holds("nothing is changed", Beaches.all(x).equals(first));
    }
}
