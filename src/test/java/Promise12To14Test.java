import java.util.List;

/** undo, keep and restore. */
final class Promise12To14Test {
    private static final int NONE = -1005;
    private static final int ACTS = 11;

    private Promise12To14Test() {
    }

    static void test(Check check) {
        undo(check);
        historyOfFour(check);
        whatIsNoAct(check);
        everyActIsRecorded(check);
        keep(check);
        restore(check);
        restoreIsAnAct(check);
    }

    /** The acts, by number, on a beach that the acts before have prepared. */
    private static int act(BeachBars x, int number) {
        switch (number) {
            case 0:
                return x.wave(1, 9);
            case 1:
                return x.run(5);
            case 2:
                return x.dump(2, 9, 80);
            case 3:
                return x.setLevel(35);
            case 4:
                return x.set(1, 2);
            case 5:
                return Beaches.waves(x, "0h3x4,3h20");
            case 6:
                return x.strike(3, 3);
            case 7:
                return x.settle();
            case 8:
                return x.restore();
            case 9:
                return x.wave(0, 5);
            default:
                return x.run(0);
        }
    }

    private static void undo(Check check) {
        check.begin("promise 12, undo");
        BeachBars x = new BeachBars();
        check.due("undo()", x.undo(), NONE);
        List<Integer> first = Beaches.state(x);
        x.dump(0, 0, 1);
        check.due("undo()", x.undo(), 0);
        check.holds("all is as at first", Beaches.state(x).equals(first));
        check.due("undo()", x.undo(), NONE);
        check.due("count(18)", x.count(18), 0);
        check.holds("all is as at first", Beaches.state(x).equals(first));
    }

    private static void historyOfFour(Check check) {
        check.begin("promise 12, a history of 4 states");
        BeachBars x = new BeachBars();
        for (int i = 1; i <= 7; i++) {
            x.dump(0, 19, 10 + i);
            check.due("count(18)", x.count(18), Math.min(i, 4));
        }
        for (int i = 6; i >= 3; i--) {
            check.due("undo()", x.undo(), i - 3);
            check.due("cell(0, 19, 0)", x.cell(0, 19, 0), 10 + i);
        }
        check.due("undo()", x.undo(), NONE);
        check.due("cell(0, 19, 0)", x.cell(0, 19, 0), 13);
        x.dump(0, 19, 50);
        x.dump(0, 19, 51);
        check.due("undo()", x.undo(), 1);
        x.dump(0, 19, 52);
        check.due("undo()", x.undo(), 1);
        check.due("cell(0, 19, 0)", x.cell(0, 19, 0), 50);
        check.due("undo()", x.undo(), 0);
        check.due("cell(0, 19, 0)", x.cell(0, 19, 0), 13);
    }

    private static void whatIsNoAct(Check check) {
        check.begin("promise 12, what is no act");
        BeachBars x = new BeachBars();
        x.dump(0, 0, 50);
        x.type('0');
        x.clearText();
        x.keep();
        x.dump(0, 0, 50);
        x.dump(0, 0, 100);
        x.setLevel(40);
        x.set(0, 8);
        x.wave(9, 9);
        x.waveAll();
        x.strike(1, 20);
        x.run(0);
        x.settle();
        x.would(0, 20, 2);
        check.due("count(18)", x.count(18), 1);
        check.due("undo()", x.undo(), 0);
        check.due("cell(0, 0, 0)", x.cell(0, 0, 0), 60);
    }

    /** A beach with a snapshot, after the first of the acts. */
    private static BeachBars after(Check check, int acts) {
        BeachBars x = new BeachBars();
        x.keep();
        for (int number = 0; number < acts; number++) {
            check.holds("act " + number + " is possible", act(x, number) >= 0);
        }
        return x;
    }

    private static void everyActIsRecorded(Check check) {
        check.begin("promise 12, every act is recorded");
        for (int acts = 1; acts <= ACTS; acts++) {
            int kept = Math.min(4, acts);
            for (int undone = 1; undone <= kept; undone++) {
                BeachBars x = after(check, acts);
                for (int i = 1; i <= undone; i++) {
                    check.due("undo() after " + acts + " acts", x.undo(), kept - i);
                }
                check.holds("the state " + undone + " acts before act " + acts + " is back",
                        Beaches.state(x).equals(Beaches.state(after(check, acts - undone))));
                check.due("undo() at the end", undone == kept ? x.undo() : NONE, NONE);
            }
        }
    }

    private static void keep(Check check) {
        check.begin("promise 13, keep");
        BeachBars x = new BeachBars();
        check.due("keep()", x.keep(), 2520);
        check.due("count(18)", x.count(18), 0);
        x.dump(0, 0, 99);
        check.due("keep()", x.keep(), 2559);
        x.dump(0, 0, 0);
        check.due("restore()", x.restore(), 2559);
        check.due("cell(0, 0, 0)", x.cell(0, 0, 0), 99);
        check.due("undo()", x.undo(), 2);
        check.due("undo()", x.undo(), 1);
        check.due("undo()", x.undo(), 0);
        check.due("restore()", x.restore(), 2559);
    }

    private static void restore(Check check) {
        check.begin("promise 14, restore");
        BeachBars x = new BeachBars();
        check.due("restore()", x.restore(), NONE);
        check.due("count(18)", x.count(18), 0);
        for (int number = 0; number <= 5; number++) {
            act(x, number);
        }
        List<Integer> kept = Beaches.state(x);
        int all = x.keep();
        check.due("count(0)", x.count(0), all);
        check.due("count(18)", x.count(18), 4);
        x.strike(3, 3);
        x.settle();
        x.run(30);
        x.setLevel(70);
        x.set(0, 1);
        check.holds("much is changed", !Beaches.state(x).equals(kept));
        check.due("restore()", x.restore(), all);
        check.holds("all is as it was kept", Beaches.state(x).equals(kept));
        check.due("count(18)", x.count(18), 4);
        x.run(0);
        check.due("restore()", x.restore(), all);
        check.holds("the snapshot stays", Beaches.state(x).equals(kept));
    }

    private static void restoreIsAnAct(Check check) {
        check.begin("promise 14, restore is an act");
        BeachBars x = new BeachBars();
        x.keep();
        check.due("restore()", x.restore(), 2520);
        check.due("count(18)", x.count(18), 1);
        x.dump(1, 1, 1);
        List<Integer> before = Beaches.state(x);
        check.due("restore()", x.restore(), 2520);
        check.due("count(18)", x.count(18), 3);
        check.due("undo()", x.undo(), 2);
        check.holds("all is as before restore", Beaches.state(x).equals(before));
    }
}
