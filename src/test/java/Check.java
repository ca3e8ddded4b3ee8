/** Compares answers with those that are due, prints each that differs, and counts them. */
final class Check {
    private String test = "";
    private int asked;
    private int wrong;

    void begin(String name) {
        test = name;
    }

    void due(String call, int got, int want) {
        asked++;
        if (got != want) {
            wrong++;
            System.out.println(test + ": " + call + " answered " + got + ", due is " + want);
        }
    }

    void holds(String what, boolean so) {
        asked++;
        if (!so) {
            wrong++;
            System.out.println(test + ": does not hold: " + what);
        }
    }

    int asked() {
        return asked;
    }

    int wrong() {
        return wrong;
    }
}
