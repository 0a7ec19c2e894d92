/** Compares answers with the ones that are due, and ends a test with exit code 1 if one is not. */
final class Due {
    private static final int MOST_SHOWN = 40;

    private final String test;
    private String part = "";
    private int asked;
    private int wrong;

    Due(String test) {
        this.test = test;
    }

    /** Names what the next answers belong to. */
    void part(String name) {
        part = name;
    }

    void is(String call, long got, long want) {
        asked++;
        if (got != want) {
            complain(call + " answered " + got + ", due is " + want);
        }
    }

    void isTrue(String what, boolean holds) {
        asked++;
        if (!holds) {
            complain(what + " does not hold");
        }
    }

    private void complain(String text) {
        wrong++;
        if (wrong <= MOST_SHOWN) {
            System.out.println(test + ", " + part + ": " + text);
        }
    }

    boolean hasWrong() {
        return wrong > 0;
    }

    void finish() {
        System.out.println(test + ": " + asked + " answers, " + wrong + " wrong");
        if (wrong > 0) {
            System.exit(1);
        }
    }
}
