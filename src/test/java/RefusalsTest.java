import java.util.List;
import java.util.function.ToIntFunction;

/**
 * Each call that returns an error or NONE: the order of its checks is that of the @return line, and it changes
 * nothing, neither the state nor the text, the history or the snapshot.
 */
final class RefusalsTest {
    private static final int UNKNOWN = -1001;
    private static final int BAD_VALUE = -1002;
    private static final int FULL = -1003;
    private static final int NONE = -1005;

    private final Check check;
    private final boolean isNew;
    private final List<Integer> due;

    private RefusalsTest(Check check, boolean isNew) {
        this.check = check;
        this.isNew = isNew;
        due = everything(beach());
    }

    static void test(Check check) {
        RefusalsTest fresh = new RefusalsTest(check, true);
        fresh.onEveryBeach();
        fresh.onANewBeach();
        RefusalsTest busy = new RefusalsTest(check, false);
        busy.onEveryBeach();
        busy.onAFullBeach();
        notPossible(check);
    }

    private BeachBars beach() {
        return isNew ? new BeachBars() : fullBeach();
    }

    /** 24 waves that wait, 3 that ran, 60 characters, 4 states, a snapshot, and sand at rest. */
    private static BeachBars fullBeach() {
        BeachBars x = new BeachBars();
        Beaches.waves(x, "0h9,1h2,2h6");
        x.run(4);
        x.setLevel(45);
        x.dump(1, 4, 50);
        x.keep();
        x.dump(1, 4, 47);
        x.set(0, 7);
        x.set(2, 20);
        x.set(3, 15);
        Beaches.waves(x, "0h5x9,1h6x9,2h7x6");
        x.clearText();
        Beaches.write(x, "0h1,".repeat(14) + "3h19");
        return x;
    }

    /** All that is told, and what undo, restore and the text bring to light after it. */
    private static List<Integer> everything(BeachBars x) {
        List<Integer> seen = Beaches.all(x);
        for (int i = 0; i < 4; i++) {
            seen.add(x.undo());
            seen.add(x.count(9));
            seen.add(x.count(11));
            seen.add(x.count(13));
            seen.add(x.count(14));
            seen.add(x.cell(1, 4, 0));
        }
        seen.add(x.restore());
        seen.add(x.cell(1, 4, 0));
        seen.add(x.count(9));
        seen.add(x.waveAll());
        seen.add(x.waiting(0, true));
        seen.add(x.clearText());
        return seen;
    }

    private void refuses(String call, ToIntFunction<BeachBars> act, int error) {
        BeachBars x = beach();
        check.due(call, act.applyAsInt(x), error);
        check.holds(call + " changes nothing", everything(x).equals(due));
    }

    private void onEveryBeach() {
        String beach = isNew ? ", a new beach" : ", a full beach";
        check.begin("promise 2 refuses" + beach);
        refuses("dump(-1, -1, -1)", x -> x.dump(-1, -1, -1), UNKNOWN);
        refuses("dump(4, 0, 0)", x -> x.dump(4, 0, 0), UNKNOWN);
        refuses("dump(0, 20, 100)", x -> x.dump(0, 20, 100), UNKNOWN);
        refuses("dump(0, 0, 100)", x -> x.dump(0, 0, 100), BAD_VALUE);
        refuses("dump(3, 19, -1)", x -> x.dump(3, 19, -1), BAD_VALUE);
        refuses("dump of what is there", x -> x.dump(1, 4, x.cell(1, 4, 0)), NONE);
        check.begin("promise 3 refuses" + beach);
        refuses("setLevel(19)", x -> x.setLevel(19), BAD_VALUE);
        refuses("setLevel(71)", x -> x.setLevel(71), BAD_VALUE);
        refuses("setLevel of what is so", x -> x.setLevel(x.count(10)), NONE);
        check.begin("promise 4 refuses" + beach);
        int[] least = {1, 0, 1, 4};
        int[] most = {20, 2, 20, 30};
        for (int which = 0; which <= 3; which++) {
            int number = which;
            refuses("set below " + which, x -> x.set(number, least[number] - 1), BAD_VALUE);
            refuses("set above " + which, x -> x.set(number, most[number] + 1), BAD_VALUE);
            refuses("set of what is so " + which, x -> x.set(number, x.count(11 + number)), NONE);
        }
        refuses("set(-1, 8)", x -> x.set(-1, 8), BAD_VALUE);
        refuses("set(4, 99)", x -> x.set(4, 99), BAD_VALUE);
        check.begin("promise 5 refuses" + beach);
        refuses("wave(-1, 0)", x -> x.wave(-1, 0), UNKNOWN);
        refuses("wave(4, 20)", x -> x.wave(4, 20), UNKNOWN);
        refuses("wave(0, 0)", x -> x.wave(0, 0), BAD_VALUE);
        refuses("wave(3, 21)", x -> x.wave(3, 21), BAD_VALUE);
        check.begin("promise 7 refuses" + beach);
        refuses("strike(0, 20)", x -> x.strike(0, 20), BAD_VALUE);
        refuses("strike(1, 21)", x -> x.strike(1, 21), BAD_VALUE);
        refuses("strike(21, 21)", x -> x.strike(21, 21), BAD_VALUE);
        refuses("strike(0, 0)", x -> x.strike(0, 0), BAD_VALUE);
        refuses("strike(7, 6)", x -> x.strike(7, 6), BAD_VALUE);
        refuses("strike(8, 20)", x -> x.strike(8, 20), NONE);
        refuses("strike(1, 4)", x -> x.strike(1, 4), NONE);
        check.begin("promise 8 refuses" + beach);
        refuses("run(-1)", x -> x.run(-1), BAD_VALUE);
        refuses("run(31)", x -> x.run(31), BAD_VALUE);
        check.begin("promise 9 refuses" + beach);
        refuses("settle()", x -> x.settle(), NONE);
        tellers(beach);
    }

    private void tellers(String beach) {
        check.begin("promise 15 refuses" + beach);
        refuses("cell(4, 20, 5)", x -> x.cell(4, 20, 5), UNKNOWN);
        refuses("cell(0, -1, -1)", x -> x.cell(0, -1, -1), UNKNOWN);
        refuses("cell(0, 0, 5)", x -> x.cell(0, 0, 5), BAD_VALUE);
        check.begin("promise 16 refuses" + beach);
        refuses("row(-1, -1)", x -> x.row(-1, -1), UNKNOWN);
        refuses("row(4, 0)", x -> x.row(4, 0), UNKNOWN);
        refuses("row(0, 7)", x -> x.row(0, 7), BAD_VALUE);
        refuses("row(3, 6)", x -> x.row(3, 6), NONE);
        check.begin("promise 17 refuses" + beach);
        refuses("waiting(-1, true)", x -> x.waiting(-1, true), BAD_VALUE);
        refuses("waiting(24, true)", x -> x.waiting(24, true), NONE);
        check.begin("promise 18 refuses" + beach);
        refuses("ended(-1, 0)", x -> x.ended(-1, 0), BAD_VALUE);
        refuses("ended(0, 7)", x -> x.ended(0, 7), BAD_VALUE);
        refuses("ended(24, -1)", x -> x.ended(24, -1), BAD_VALUE);
        refuses("ended(3, 0)", x -> x.ended(3, 0), NONE);
        check.begin("promise 19 refuses, and changes nothing" + beach);
        refuses("would(4, 0, 0)", x -> x.would(4, 0, 0), UNKNOWN);
        refuses("would(0, 21, 2)", x -> x.would(0, 21, 2), BAD_VALUE);
        refuses("would(0, 0, 7)", x -> x.would(0, 0, 7), BAD_VALUE);
        refuses("would(0, 20, 1)", x -> x.would(0, 20, 1), BAD_VALUE);
        refuses("would(0, 1, 2)", x -> x.would(0, 1, 2), NONE);
        refuses("would(3, 20, 4)", x -> x.would(3, 20, 4), 1);
        check.begin("promise 20 refuses" + beach);
        refuses("sand(20, 0)", x -> x.sand(20, 0), UNKNOWN);
        refuses("sand(0, -1)", x -> x.sand(0, -1), UNKNOWN);
        refuses("sand(1, 0)", x -> x.sand(1, 0), BAD_VALUE);
        check.begin("promise 21 refuses" + beach);
        refuses("count(-1)", x -> x.count(-1), BAD_VALUE);
        refuses("count(20)", x -> x.count(20), BAD_VALUE);
    }

    private void onANewBeach() {
        check.begin("promises 6 to 8, 11, 12 and 14 refuse, a new beach");
        refuses("waveAll()", x -> x.waveAll(), -2000);
        refuses("strike(1, 20)", x -> x.strike(1, 20), NONE);
        refuses("run(0)", x -> x.run(0), NONE);
        refuses("run(30)", x -> x.run(30), NONE);
        refuses("undo()", x -> x.undo(), NONE);
        refuses("restore()", x -> x.restore(), NONE);
        refuses("clearText()", x -> x.clearText(), 0);
        refuses("waiting(0, false)", x -> x.waiting(0, false), NONE);
        refuses("ended(0, 0)", x -> x.ended(0, 0), NONE);
    }

    private void onAFullBeach() {
        check.begin("promises 5, 6 and 10 refuse, a full beach");
        check.due("the waves, the states and the characters", beach().count(9) * 10000 + beach().count(18) * 100
                + beach().count(19), 240460);
        refuses("wave(0, 1)", x -> x.wave(0, 1), FULL);
        refuses("wave(4, 21)", x -> x.wave(4, 21), UNKNOWN);
        refuses("waveAll()", x -> x.waveAll(), FULL);
        refuses("type('0')", x -> x.type('0'), FULL);
        refuses("type(0)", x -> x.type((char) 0), FULL);
    }

    private static void notPossible(Check check) {
        check.begin("NOT_POSSIBLE is in no @return line");
        for (int row = -1; row <= 4; row++) {
            for (int what = -1; what <= 20; what++) {
                BeachBars x = fullBeach();
                int[] answers = {x.dump(row, what, 9), x.set(row, what), x.wave(row, what), x.strike(what, row),
                    x.run(what), x.settle(), x.waveAll(), x.cell(row, 0, what), x.row(row, what),
                    x.ended(row, what), x.would(row, 20, what), x.sand(row, what), x.count(what), x.undo(),
                    x.keep(), x.restore()};
                for (int answer : answers) {
                    check.holds("no call answers it", answer != BeachBars.NOT_POSSIBLE);
                }
            }
        }
    }
}
