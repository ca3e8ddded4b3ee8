import java.util.List;

/** Boundary sentences of HISTORY, of undo, keep and restore, and of "What it is". */
final class EdgesOfHistoryTest {
    private static final int FULL = -1003;
    private static final int NONE = -1005;

    private EdgesOfHistoryTest() {
    }

    static void test(Check check) {
        emptyAtFirst(check);
        fourStatesAndNotFive(check);
        undoneToTheEndAndOn(check);
        oldestOnesDroppedForLong(check);
        answersOf0AreRecorded(check);
        refusedCallsAreNotRecorded(check);
        textIsNotUndone(check);
        snapshotIsNotUndone(check);
        snapshotHasNoHistory(check);
        textIsNotRestored(check);
        noSnapshot(check);
        restoreWhatIsSo(check);
        latestSnapshotCounts(check);
        snapshotIsACopy(check);
        restoredStateIsWhole(check);
        objectsAreApart(check);
        answersUpToThe512thCall(check);
    }

    private static void emptyAtFirst(Check check) {
        check.begin("promise 12, NONE if the history is empty");
        BeachBars x = new BeachBars();
        check.due("undo()", x.undo(), NONE);
        check.due("count(18)", x.count(18), 0);
        x.setLevel(41);
        check.due("undo()", x.undo(), 0);
        check.due("undo()", x.undo(), NONE);
        check.due("undo()", x.undo(), NONE);
        check.due("count(10)", x.count(10), 40);
        x.setLevel(42);
        check.due("count(18)", x.count(18), 1);
        check.due("undo()", x.undo(), 0);
        check.due("count(10)", x.count(10), 40);
    }

    private static void fourStatesAndNotFive(Check check) {
        check.begin("promise 12, at most 4 states; when one more is recorded, the oldest one is dropped");
        for (int acts = 1; acts <= 6; acts++) {
            BeachBars x = new BeachBars();
            for (int act = 1; act <= acts; act++) {
                x.setLevel(40 + act);
            }
            int kept = Math.min(acts, 4);
            check.due("count(18) after " + acts, x.count(18), kept);
            for (int i = 1; i <= kept; i++) {
                check.due("undo() after " + acts, x.undo(), kept - i);
                check.due("count(18) after " + acts, x.count(18), kept - i);
                check.due("count(10) after " + acts, x.count(10), 40 + acts - i);
            }
            check.due("undo() once more after " + acts, x.undo(), NONE);
            check.due("count(10) after " + acts, x.count(10), 40 + acts - kept);
        }
    }

    private static void undoneToTheEndAndOn(Check check) {
        check.begin("promise 12, states that are removed, and new ones in their place");
        for (int undone = 0; undone <= 4; undone++) {
            BeachBars x = new BeachBars();
            for (int act = 1; act <= 5; act++) {
                x.setLevel(40 + act);
            }
            for (int i = 0; i < undone; i++) {
                x.undo();
            }
            int level = 45 - undone;
            x.setLevel(60);
            x.setLevel(61);
            int kept = Math.min(4, 4 - undone + 2);
            int[] levels = {60, level, level - 1, level - 2};
            for (int i = 0; i < kept; i++) {
                check.due("undo() with " + undone, x.undo(), kept - 1 - i);
                check.due("count(10) with " + undone, x.count(10), levels[i]);
            }
            check.due("undo() with " + undone, x.undo(), NONE);
        }
    }

    private static void oldestOnesDroppedForLong(Check check) {
        check.begin("promise 12, the oldest one is dropped again and again");
        BeachBars x = new BeachBars();
        for (int act = 1; act <= 99; act++) {
            x.dump(0, 0, act);
            check.due("count(18)", x.count(18), Math.min(act, 4));
        }
        for (int i = 98; i >= 95; i--) {
            check.due("undo()", x.undo(), i - 95);
            check.due("cell(0, 0, 0)", x.cell(0, 0, 0), i);
        }
        check.due("undo()", x.undo(), NONE);
    }

    private static void answersOf0AreRecorded(Check check) {
        check.begin("an act that answers 0 is recorded: 0 is no error and not NONE");
        BeachBars x = new BeachBars();
        check.due("set(1, 1)", x.set(1, 1), 0);
        check.due("count(18)", x.count(18), 1);
        x.dump(0, 19, 0);
        check.due("dump(0, 19, 1)", x.dump(0, 19, 1), 0);
        check.due("count(18)", x.count(18), 3);
        check.due("undo()", x.undo(), 2);
        check.due("cell(0, 19, 0)", x.cell(0, 19, 0), 0);
        x.undo();
        check.due("undo()", x.undo(), 0);
        check.due("count(12)", x.count(12), 0);
        x.wave(0, 1);
        check.due("run(0)", x.run(0), 0);
        check.due("count(18)", x.count(18), 2);
    }

    private static void refusedCallsAreNotRecorded(Check check) {
        check.begin("a call that returns an error or NONE does not drop the oldest state");
        BeachBars x = new BeachBars();
        for (int act = 1; act <= 4; act++) {
            x.setLevel(40 + act);
        }
        x.setLevel(44);
        x.setLevel(71);
        x.dump(0, 0, 60);
        x.dump(4, 0, 60);
        x.set(0, 8);
        x.set(4, 8);
        x.wave(0, 21);
        x.waveAll();
        x.strike(1, 20);
        x.strike(0, 20);
        x.run(0);
        x.run(31);
        x.settle();
        x.restore();
        x.type('0');
        x.clearText();
        x.keep();
        check.due("count(18)", x.count(18), 4);
        for (int i = 1; i <= 4; i++) {
            check.due("undo()", x.undo(), 4 - i);
        }
        check.due("count(10)", x.count(10), 40);
    }

    private static void textIsNotUndone(Check check) {
        check.begin("promise 12, the text is not of the state");
        BeachBars x = new BeachBars();
        Beaches.write(x, "1h7");
        x.setLevel(50);
        x.clearText();
        check.due("undo()", x.undo(), 0);
        check.due("count(19)", x.count(19), 0);
        check.due("waveAll()", x.waveAll(), -2000);
        x.setLevel(50);
        Beaches.write(x, "2h8");
        check.due("undo()", x.undo(), 0);
        check.due("waveAll()", x.waveAll(), 1);
        check.due("waiting(0, true)", x.waiting(0, true), 8);
    }

    private static void snapshotIsNotUndone(Check check) {
        check.begin("promise 13, the snapshot is not of the state");
        BeachBars x = new BeachBars();
        x.setLevel(50);
        check.due("keep()", x.keep(), 2520);
        check.due("count(18), keep() is no act", x.count(18), 1);
        check.due("undo()", x.undo(), 0);
        check.due("count(10)", x.count(10), 40);
        check.due("restore()", x.restore(), 2520);
        check.due("count(10)", x.count(10), 50);
        check.due("undo()", x.undo(), 0);
        check.due("count(10)", x.count(10), 40);
    }

    private static void snapshotHasNoHistory(Check check) {
        check.begin("promise 14, the history is not of the state");
        BeachBars x = new BeachBars();
        x.keep();
        for (int act = 1; act <= 4; act++) {
            x.setLevel(40 + act);
        }
        check.due("restore()", x.restore(), 2520);
        check.due("count(18)", x.count(18), 4);
        for (int i = 1; i <= 4; i++) {
            check.due("undo()", x.undo(), 4 - i);
            check.due("count(10)", x.count(10), 45 - i);
        }
        check.due("undo(), the oldest one was dropped", x.undo(), NONE);
        BeachBars y = new BeachBars();
        y.setLevel(41);
        y.setLevel(42);
        y.keep();
        y.undo();
        y.undo();
        check.due("restore()", y.restore(), 2520);
        check.due("count(18)", y.count(18), 1);
    }

    private static void textIsNotRestored(Check check) {
        check.begin("promise 14, the text is not of the state");
        BeachBars x = new BeachBars();
        Beaches.write(x, "1h7");
        x.keep();
        x.clearText();
        Beaches.write(x, "2h8x2");
        check.due("restore()", x.restore(), 2520);
        check.due("count(19)", x.count(19), 5);
        check.due("waveAll()", x.waveAll(), 2);
    }

    private static void noSnapshot(Check check) {
        check.begin("promise 14, NONE if there is no snapshot");
        BeachBars x = new BeachBars();
        check.due("restore()", x.restore(), NONE);
        x.dump(0, 0, 0);
        check.due("restore()", x.restore(), NONE);
        check.due("cell(0, 0, 0)", x.cell(0, 0, 0), 0);
        check.due("count(18)", x.count(18), 1);
        check.due("keep()", x.keep(), 2460);
        check.due("restore()", x.restore(), 2460);
    }

    private static void restoreWhatIsSo(Check check) {
        check.begin("promise 14, a state that is so already is restored and recorded");
        BeachBars x = new BeachBars();
        x.keep();
        for (int i = 1; i <= 5; i++) {
            check.due("restore()", x.restore(), 2520);
            check.due("count(18)", x.count(18), Math.min(i, 4));
        }
    }

    private static void latestSnapshotCounts(Check check) {
        check.begin("promise 13, in place of the one that was");
        BeachBars x = new BeachBars();
        x.dump(0, 0, 99);
        check.due("keep()", x.keep(), 2559);
        x.dump(0, 0, 0);
        check.due("keep()", x.keep(), 2460);
        x.dump(0, 0, 50);
        check.due("restore()", x.restore(), 2460);
        check.due("cell(0, 0, 0)", x.cell(0, 0, 0), 0);
        check.due("restore(), it stays", x.restore(), 2460);
    }

    private static void snapshotIsACopy(Check check) {
        check.begin("promises 13 and 14, what is done after keep() and restore() leaves the snapshot");
        BeachBars x = new BeachBars();
        x.wave(1, 9);
        x.keep();
        x.dump(2, 2, 0);
        x.run(3);
        check.due("restore()", x.restore(), 2520);
        check.due("cell(2, 2, 0)", x.cell(2, 2, 0), 54);
        x.dump(2, 2, 1);
        x.strike(9, 9);
        check.due("restore()", x.restore(), 2520);
        check.due("cell(2, 2, 0)", x.cell(2, 2, 0), 54);
        check.due("count(9)", x.count(9), 1);
        check.due("count(5)", x.count(5), 0);
        check.due("ended(0, 0)", x.ended(0, 0), NONE);
    }

    /** A beach of which nothing is as at first. */
    private static BeachBars changed() {
        BeachBars x = new BeachBars();
        x.setLevel(50);
        x.set(0, 9);
        x.set(1, 1);
        x.set(2, 2);
        x.set(3, 5);
        x.dump(0, 0, 80);
        x.dump(1, 9, 49);
        x.dump(2, 19, 0);
        Beaches.waves(x, "0h20x3,1h9,2h5x2");
        x.run(2);
        x.setLevel(68);
        Beaches.waves(x, "3h3,2h20");
        return x;
    }

    private static void restoredStateIsWhole(Check check) {
        check.begin("a state is everything but the text, the history and the snapshot");
        List<Integer> state = Beaches.state(changed());
        BeachBars x = changed();
        x.keep();
        Beaches.waves(x, "0h1x9");
        x.run(30);
        x.setLevel(20);
        x.settle();
        x.set(3, 4);
        check.holds("it is another one", !Beaches.state(x).equals(state));
        x.restore();
        check.holds("it is restored whole", Beaches.state(x).equals(state));
        BeachBars y = changed();
        y.run(30);
        y.undo();
        check.holds("it is undone whole", Beaches.state(y).equals(state));
        check.holds("it is not the first one", !Beaches.state(new BeachBars()).equals(state));
    }

    private static void objectsAreApart(Check check) {
        check.begin("promise 1, a new object has nothing of another");
        BeachBars x = changed();
        x.keep();
        BeachBars y = new BeachBars();
        check.due("restore()", y.restore(), NONE);
        check.due("undo()", y.undo(), NONE);
        check.due("count(19)", y.count(19), 0);
        check.due("ended(0, 0)", y.ended(0, 0), NONE);
        check.due("waiting(0, true)", y.waiting(0, true), NONE);
        List<Integer> state = Beaches.state(changed());
        check.holds("the other one is as it was", Beaches.state(x).equals(state));
    }

    private static void answersUpToThe512thCall(Check check) {
        check.begin("What it is: an object is used for at most 512 calls");
        BeachBars x = new BeachBars();
        for (int call = 1; call <= 510; call++) {
            check.due("dump(3, 0, ..), call " + call, x.dump(3, 0, call % 2 == 1 ? 99 : 0),
                    call == 1 ? 60 : call % 2 == 1 ? 0 : 99);
        }
        check.due("count(3), call 511", x.count(3), 39 + 254 * 99);
        check.due("count(4), call 512", x.count(4), 255 * 99);
        BeachBars y = new BeachBars();
        for (int call = 1; call <= 511; call++) {
            check.due("wave(1, 1), call " + call, y.wave(1, 1), call <= 24 ? call : FULL);
        }
        check.due("run(0), call 512", y.run(0), 0);
        BeachBars z = new BeachBars();
        for (int call = 1; call <= 508; call++) {
            check.holds("setLevel(..), call " + call, z.setLevel(20 + call % 51) >= 20);
        }
        check.due("undo(), call 509", z.undo(), 3);
        check.due("count(10), call 510", z.count(10), 20 + 507 % 51);
        check.due("undo(), call 511", z.undo(), 2);
        check.due("count(10), call 512", z.count(10), 20 + 506 % 51);
    }
}
