import java.util.Random;

/** Runs of calls on BeachBars and on the model at once: each answer must be the same, and no call may throw. */
final class ModelTest {
    private static final int RUNS = 600;
    private static final int CALLS = 512;
    // A change may be a text that is typed and read: at most so many calls.
    private static final int CALLS_OF_A_CHANGE = 10;
    private static final int[] WILD = {Integer.MIN_VALUE, -1000, -1, 0, 1, 25, 100, 1000, Integer.MAX_VALUE};
    private static final String SIGNS = "0123456789hx,,hx";

    private final Random random;
    private final BeachBars x = new BeachBars();
    private final Model model = new Model();
    private final int kind;

    private ModelTest(int seed) {
        random = new Random(seed);
        kind = seed % 4;
    }

    static void test(Check check) {
        for (int seed = 0; seed < RUNS; seed++) {
            check.begin("the model, run " + seed);
            new ModelTest(seed).play(check);
        }
    }

    /** Each answer that is looked at is one call: no more of them than the document allows an object. */
    private void play(Check check) {
        int first = check.asked();
        for (int left = CALLS; left > 0; left = CALLS - (check.asked() - first)) {
            int wrong = check.wrong();
            if (left >= CALLS_OF_A_CHANGE && random.nextInt(100) < 45) {
                changeSomething(check);
            } else {
                askSomething(check);
            }
            if (check.wrong() != wrong) {
                System.out.println("call " + (check.asked() - first) + " of the run was wrong");
                return;
            }
        }
    }

    /** A number from least to most; rarely one just outside, or a wild one. */
    private int number(int least, int most) {
        int luck = random.nextInt(150);
        if (luck == 0) {
            return WILD[random.nextInt(WILD.length)];
        }
        if (luck == 1) {
            return least - 1;
        }
        if (luck == 2) {
            return most + 1;
        }
        return least + random.nextInt(most - least + 1);
    }

    private void changeSomething(Check check) {
        int luck = random.nextInt(100);
        if (luck < 35) {
            dump(check);
        } else if (luck < 45) {
            int surge = random.nextBoolean() ? 0 : number(0, 30);
            check.due("run(" + surge + ")", x.run(surge), model.run(surge));
        } else if (luck < 60) {
            int row = number(0, 3);
            int height = number(1, 20);
            check.due("wave(" + row + ", " + height + ")", x.wave(row, height), model.wave(row, height));
        } else if (luck < 70) {
            text(check);
        } else if (luck < 75) {
            check.due("settle()", x.settle(), model.settle());
        } else if (luck < 80) {
            int level = number(20, 70);
            check.due("setLevel(" + level + ")", x.setLevel(level), model.setLevel(level));
        } else if (luck < 86) {
            set(check);
        } else if (luck < 89) {
            int least = number(1, 20);
            int most = random.nextBoolean() ? least : number(1, 20);
            check.due("strike(" + least + ", " + most + ")", x.strike(least, most), model.strike(least, most));
        } else if (luck < 94) {
            check.due("undo()", x.undo(), model.undo());
        } else if (luck < 96) {
            check.due("keep()", x.keep(), model.keep());
        } else if (luck < 98) {
            check.due("restore()", x.restore(), model.restore());
        } else {
            check.due("clearText()", x.clearText(), model.clearText());
        }
    }

    /** Sand for bars under water in some runs, for cliffs and empty cells in others. */
    private void dump(Check check) {
        int row = number(0, 3);
        int cell = number(0, 19);
        int height = number(0, 99);
        if (kind == 1 && cell >= 0 && cell < 20) {
            height = Math.max(0, 60 - 3 * cell + number(-8, 8));
        } else if (kind == 2) {
            height = random.nextBoolean() ? number(90, 99) : number(0, 3);
        } else if (kind == 3) {
            height = number(15, 45);
        }
        check.due("dump(" + row + ", " + cell + ", " + height + ")",
                x.dump(row, cell, height), model.dump(row, cell, height));
    }

    private void set(Check check) {
        int which = number(0, 3);
        int value = number(0, 30);
        check.due("set(" + which + ", " + value + ")", x.set(which, value), model.set(which, value));
    }

    /** Goes on with the text, or begins a new one; often without a fault, sometimes with any signs in it. */
    private void text(Check check) {
        if (random.nextBoolean()) {
            check.due("clearText()", x.clearText(), model.clearText());
        } else if (random.nextInt(4) != 0) {
            type(check, ',');
        }
        if (random.nextInt(4) == 0) {
            type(check, random.nextInt(10) == 0 ? (char) random.nextInt(65536)
                    : SIGNS.charAt(random.nextInt(SIGNS.length())));
        }
        String group = random.nextInt(4) + "h" + (1 + random.nextInt(21));
        if (random.nextInt(3) == 0) {
            group += "x" + (1 + random.nextInt(9));
        }
        for (char sign : group.toCharArray()) {
            type(check, sign);
        }
        check.due("waveAll()", x.waveAll(), model.waveAll());
    }

    private void type(Check check, char sign) {
        check.due("type(" + (int) sign + ")", x.type(sign), model.type(sign));
    }

    private void askSomething(Check check) {
        int row = number(0, 3);
        int cell = number(0, 19);
        int place = random.nextBoolean() ? number(0, 4) : number(0, 24);
        int height = number(1, 20);
        boolean tall = random.nextBoolean();
        switch (random.nextInt(7)) {
            case 0 -> {
                int what = number(0, 4);
                check.due("cell(" + row + ", " + cell + ", " + what + ")",
                        x.cell(row, cell, what), model.cell(row, cell, what));
            }
            case 1 -> {
                int what = number(0, 6);
                check.due("row(" + row + ", " + what + ")", x.row(row, what), model.row(row, what));
            }
            case 2 -> check.due("waiting(" + place + ", " + tall + ")",
                    x.waiting(place, tall), model.waiting(place, tall));
            case 3 -> {
                int what = number(0, 6);
                check.due("ended(" + place + ", " + what + ")", x.ended(place, what), model.ended(place, what));
            }
            case 4 -> {
                int what = number(2, 6);
                check.due("would(" + row + ", " + height + ", " + what + ")",
                        x.would(row, height, what), model.would(row, height, what));
            }
            case 5 -> {
                int to = number(0, 19);
                check.due("sand(" + cell + ", " + to + ")", x.sand(cell, to), model.sand(cell, to));
            }
            default -> {
                int what = number(0, 19);
                check.due("count(" + what + ")", x.count(what), model.count(what));
            }
        }
    }
}
