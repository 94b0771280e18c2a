/** Counts the answers of a test that are not the ones that are due. */
final class Due {
    private final String test;
    private int asked;
    private int wrong;

    Due(String test) {
        this.test = test;
    }

    void is(String call, int got, int want) {
        asked++;
        if (got != want) {
            wrong++;
            System.out.println(test + ": " + call + " answered " + got + ", due is " + want);
        }
    }

    void holds(String what, boolean so) {
        is(what, so ? 1 : 0, 1);
    }

    /** Several answers in a row, told in one line. */
    void are(String calls, int[] got, int... want) {
        is(calls + " (how many)", got.length, want.length);
        for (int k = 0; k < got.length && k < want.length; k++) {
            is(calls + "[" + k + "]", got[k], want[k]);
        }
    }

    /** The test's end: exit code 1 if an answer was wrong. */
    void end() {
        System.out.println(test + ": " + asked + " answers, " + wrong + " wrong");
        if (wrong != 0 || asked == 0) {
            System.exit(1);
        }
    }
}
