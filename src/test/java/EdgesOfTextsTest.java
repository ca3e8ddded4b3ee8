/** Boundary sentences of TEXTS, and of waveAll, type and clearText. */
final class EdgesOfTextsTest {
    private static final int FULL = -1003;
    private static final int NONE = -1005;

    private EdgesOfTextsTest() {
    }

    static void test(Check check) {
        emptyAtFirst(check);
        atMost60Characters(check);
        fullTextIsAsItWas(check);
        textOf60Characters(check);
        oneOrMoreGroups(check);
        everySignAtEveryPlace(check);
        anySignCanBeTyped(check);
        noZeroInFront(check);
        digitsUpTo20(check);
        endsTooEarly(check);
        firstFaultOfSeveral(check);
        faultBeforeFull(check);
        textStays(check);
        clearedText(check);
    }

    private static void fault(Check check, String text, int fault) {
        BeachBars x = new BeachBars();
        check.due("waveAll() of " + text, Beaches.waves(x, text), -2000 - fault);
        check.due("count(9) after " + text, x.count(9), 0);
    }

    private static void good(Check check, String text, int waves) {
        BeachBars x = new BeachBars();
        check.due("waveAll() of " + text, Beaches.waves(x, text), waves);
        check.due("count(9) after " + text, x.count(9), waves);
    }

    private static void emptyAtFirst(Check check) {
        check.begin("promise 6, the text is empty at first: it ends too early");
        BeachBars x = new BeachBars();
        check.due("count(19)", x.count(19), 0);
        check.due("waveAll()", x.waveAll(), -2000);
        check.due("clearText()", x.clearText(), 0);
        check.due("count(18)", x.count(18), 0);
    }

    private static void atMost60Characters(Check check) {
        check.begin("promise 10, at most 60 characters");
        BeachBars x = new BeachBars();
        for (int length = 1; length <= 60; length++) {
            check.due("type('7') the time " + length, x.type('7'), length);
        }
        check.due("type('7') the time 61", x.type('7'), FULL);
        check.due("type('7') the time 62", x.type('7'), FULL);
        check.due("count(19)", x.count(19), 60);
        check.due("clearText()", x.clearText(), 60);
        check.due("type('7')", x.type('7'), 1);
    }

    private static void fullTextIsAsItWas(Check check) {
        check.begin("promise 10, FULL changes nothing");
        BeachBars x = new BeachBars();
        Beaches.write(x, "0h1,".repeat(14) + "3h19");
        check.due("type('x')", x.type('x'), FULL);
        check.due("type(',')", x.type(','), FULL);
        check.due("waveAll()", x.waveAll(), 15);
        check.due("waiting(0, true)", x.waiting(0, true), 1);
        check.due("waiting(14, true)", x.waiting(14, true), 19);
        check.due("waiting(14, false)", x.waiting(14, false), 3);
        check.due("clearText()", x.clearText(), 60);
    }

    private static void textOf60Characters(Check check) {
        check.begin("promise 6, texts of 60 characters");
        String nine = "0h1x9,".repeat(9);
        fault(check, nine + "0h1x9,", 60);
        fault(check, nine + "0h10x", 59);
        fault(check, nine + "0h10x,", 59);
        fault(check, nine + "0h10x1", 59);
        BeachBars x = new BeachBars();
        check.due("waveAll() of 90 waves", Beaches.waves(x, nine + "0h10x9"), FULL);
        check.due("count(9)", x.count(9), 0);
        check.due("count(19)", x.count(19), 60);
        good(check, "0h1,".repeat(14) + "0h20", 15);
        good(check, "0h1x2,".repeat(2) + "0h1,".repeat(11) + "2h20", 16);
    }

    private static void oneOrMoreGroups(Check check) {
        check.begin("promise 6, one or more groups with a comma between two");
        good(check, "0h1", 1);
        good(check, "0h1,3h20", 2);
        good(check, "0h1x2,3h20x9", 11);
        fault(check, ",0h1", 0);
        fault(check, "0h1,,3h20", 4);
        fault(check, "0h13h20", 4);
        fault(check, "0h1x23h20", 5);
        fault(check, "0h203h20", 4);
        fault(check, "0h1;3h20", 3);
        fault(check, "0h1, 3h20", 4);
        fault(check, "0h1,", 4);
        fault(check, "0h1x2,", 6);
    }

    /** Puts each sign from 0 to 300 behind a text: the allowed ones lead to other faults, or to none. */
    private static void behind(Check check, String text, String allowed) {
        for (char sign = 0; sign <= 300; sign++) {
            BeachBars x = new BeachBars();
            Beaches.write(x, text);
            x.type(sign);
            boolean refused = x.waveAll() == -2000 - text.length();
            check.holds("sign " + (int) sign + " behind '" + text + "'", refused != (allowed.indexOf(sign) >= 0));
        }
    }

    private static void everySignAtEveryPlace(Check check) {
        check.begin("promise 6, what is allowed at its place");
        behind(check, "", "0123");
        behind(check, "0", "h");
        behind(check, "3h", "123456789");
        behind(check, "0h1", "0123456789x,");
        behind(check, "0h2", "0x,");
        behind(check, "0h3", "x,");
        behind(check, "0h9", "x,");
        behind(check, "0h10", "x,");
        behind(check, "0h20", "x,");
        behind(check, "0h5x", "23456789");
        behind(check, "0h5x2", ",");
        behind(check, "0h5x9", ",");
        behind(check, "0h5,", "0123");
        behind(check, "0h5x2,", "0123");
        behind(check, "0h5,1", "h");
        behind(check, "0h20,1h1", "0123456789x,");
    }

    private static void anySignCanBeTyped(Check check) {
        check.begin("promise 10, any character");
        for (int sign = 0; sign <= 0xFFFF; sign += 51) {
            BeachBars x = new BeachBars();
            check.due("type(" + sign + ")", x.type((char) sign), 1);
            boolean row = sign >= '0' && sign <= '3';
            check.due("waveAll() with " + sign, x.waveAll(), row ? -2001 : -2000);
            check.due("clearText()", x.clearText(), 1);
        }
        char[] likeDigits = {(char) ('0' + 256), (char) ('1' + 256), (char) ('0' + 65280), 0x0661, 0xFF10, 0xFF11};
        for (char sign : likeDigits) {
            BeachBars x = new BeachBars();
            x.type(sign);
            check.due("waveAll() with " + (int) sign, x.waveAll(), -2000);
        }
        BeachBars y = new BeachBars();
        Beaches.write(y, "0");
        y.type((char) ('h' + 256));
        check.due("waveAll() with a sign 256 above h", y.waveAll(), -2001);
    }

    private static void noZeroInFront(Check check) {
        check.begin("promise 6, heights have no zero in front");
        fault(check, "0h0", 2);
        fault(check, "0h01", 2);
        fault(check, "0h020", 2);
        fault(check, "0h1,0h0", 6);
        fault(check, "0h1x02", 4);
        fault(check, "00h1", 1);
        fault(check, "01h1", 1);
    }

    private static void digitsUpTo20(Check check) {
        check.begin("promise 6, a digit by which a height would be above 20");
        for (int height = 1; height <= 20; height++) {
            good(check, "2h" + height, 1);
        }
        for (int height = 21; height <= 99; height++) {
            fault(check, "2h" + height, 3);
        }
        for (int height = 100; height <= 219; height++) {
            fault(check, "2h" + height, height / 10 <= 20 ? 4 : 3);
        }
        fault(check, "2h4294967297", 3);
        fault(check, "2h10000000000", 4);
    }

    private static void endsTooEarly(Check check) {
        check.begin("promise 6, the length of the text if it ends too early");
        String text = "0h20x9,3h1x2";
        int[] waves = {0, 0, 0, 1, 1, 0, 9, 0, 0, 0, 10, 0, 11};
        for (int length = 0; length < waves.length; length++) {
            if (waves[length] > 0) {
                good(check, text.substring(0, length), waves[length]);
            } else {
                fault(check, text.substring(0, length), length);
            }
        }
    }

    private static void firstFaultOfSeveral(Check check) {
        check.begin("promise 6, the first character that is not allowed");
        fault(check, "9x9", 0);
        fault(check, "0h5x1,9h0", 4);
        fault(check, "0h5,4h21", 4);
        fault(check, "0h5,3h21x", 7);
        fault(check, "0h25,,", 3);
    }

    private static void faultBeforeFull(Check check) {
        check.begin("promise 6, a fault is looked for before the room");
        BeachBars x = new BeachBars();
        Beaches.waves(x, "0h5x9,1h6x9,2h7x6");
        check.due("a fault behind many waves", Beaches.waves(x, "0h1x9,0h1x9,0h1x9,"), -2018);
        check.due("no fault", Beaches.waves(x, "0h1x9,0h1x9,0h1x9"), FULL);
        check.due("the empty text", Beaches.waves(x, ""), -2000);
        check.due("count(9)", x.count(9), 24);
        check.due("count(18)", x.count(18), 1);
    }

    private static void textStays(Check check) {
        check.begin("promise 6, the text stays");
        BeachBars x = new BeachBars();
        check.due("waveAll()", Beaches.waves(x, "1h20x9"), 9);
        check.due("waveAll() again", x.waveAll(), 9);
        check.due("waveAll() where 6 have room", x.waveAll(), FULL);
        check.due("type(',')", x.type(','), 7);
        check.due("waveAll()", x.waveAll(), -2007);
        check.due("count(9)", x.count(9), 18);
    }

    private static void clearedText(Check check) {
        check.begin("promise 11, the length that it had");
        BeachBars x = new BeachBars();
        check.due("clearText() of the empty text", x.clearText(), 0);
        x.type('0');
        check.due("clearText() of one character", x.clearText(), 1);
        check.due("clearText() again", x.clearText(), 0);
        check.due("waveAll()", x.waveAll(), -2000);
        check.due("count(19)", x.count(19), 0);
        check.due("waiting(0, true)", x.waiting(0, true), NONE);
        Beaches.write(x, "2h2");
        check.due("waveAll(), nothing of the old text", x.waveAll(), 1);
        check.due("waiting(0, false)", x.waiting(0, false), 2);
    }
}
