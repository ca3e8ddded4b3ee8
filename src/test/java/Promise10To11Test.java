import java.util.List;

/** type and clearText. */
final class Promise10To11Test {
    private static final int FULL = -1003;
    private static final int NONE = -1005;

    private Promise10To11Test() {
    }

    static void test(Check check) {
        type(check);
        anyCharacter(check);
        clearText(check);
        textIsNotTheState(check);
    }

    private static void type(Check check) {
        check.begin("promise 10, type");
        BeachBars x = new BeachBars();
        for (int length = 1; length <= 60; length++) {
            check.due("type('a')", x.type('a'), length);
            check.due("count(19)", x.count(19), length);
        }
        check.due("type('a')", x.type('a'), FULL);
        check.due("type('0')", x.type('0'), FULL);
        check.due("count(19)", x.count(19), 60);
        check.due("count(18)", x.count(18), 0);
        check.due("clearText()", x.clearText(), 60);
        check.due("type('0')", x.type('0'), 1);
        check.due("waveAll()", x.waveAll(), -2001);
    }

    private static void anyCharacter(Check check) {
        check.begin("promise 10, any character");
        char[] signs = {0, 1, 9, 10, 32, 47, 52, 127, 128, 255, 256, 0xD800, 0xDC00, 0xFFFF};
        for (char sign : signs) {
            BeachBars x = new BeachBars();
            Beaches.write(x, "0h5");
            check.due("type(" + (int) sign + ")", x.type(sign), 4);
            if (sign != 52) {
                check.due("waveAll() with " + (int) sign, x.waveAll(), -2003);
            }
        }
    }

    private static void clearText(Check check) {
        check.begin("promise 11, clearText");
        BeachBars x = new BeachBars();
        check.due("clearText()", x.clearText(), 0);
        Beaches.write(x, "0h5");
        check.due("clearText()", x.clearText(), 3);
        check.due("count(19)", x.count(19), 0);
        check.due("clearText()", x.clearText(), 0);
        check.due("waveAll()", x.waveAll(), -2000);
        Beaches.write(x, "1h6");
        check.due("waveAll()", x.waveAll(), 1);
        check.due("waiting(0, true)", x.waiting(0, true), 6);
        check.due("waiting(0, false)", x.waiting(0, false), 1);
        check.due("count(18)", x.count(18), 1);
    }

    private static void textIsNotTheState(Check check) {
        check.begin("promises 10 and 11, the text is not of the state");
        BeachBars x = new BeachBars();
        List<Integer> first = Beaches.state(x);
        x.keep();
        x.wave(0, 3);
        Beaches.write(x, "0h5x2");
        check.due("undo()", x.undo(), 0);
        check.due("count(19)", x.count(19), 5);
        check.due("undo()", x.undo(), NONE);
        check.due("restore()", x.restore(), 2520);
        check.due("count(19)", x.count(19), 5);
        check.holds("the state is as at first", Beaches.state(x).equals(first));
        check.due("waveAll()", x.waveAll(), 2);
        x.clearText();
        x.restore();
        check.due("count(19)", x.count(19), 0);
    }
}
