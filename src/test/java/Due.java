/** Counts the answers that are not the ones that are due, and ends a test with exit code 1 if there were some. */
final class Due {
    private int wrong = 0;
    private String about = "";

    void about(String what) {
        about = what;
    }

    void is(String call, int got, int want) {
        if (got != want) {
            fail(call + " answered " + got + ", due is " + want);
        }
    }

    void yes(String call, boolean got) {
        if (!got) {
            fail(call + " answered false, due is true");
        }
    }

    void no(String call, boolean got) {
        if (got) {
            fail(call + " answered true, due is false");
        }
    }

    /** The six facts of violation k and its way, which are always wanted together. */
    void violation(RuleGraph x, int k, String way, int... facts) {
        for (int what = 0; what < 6; what++) {
            is("violation(" + k + ", " + what + ")", x.violation(k, what), facts[what]);
        }
        String got = wayOf(x, k);
        if (!got.equals(way)) {
            fail("the way to " + k + " is " + got + ", due is " + way);
        }
    }

    void fail(String message) {
        wrong++;
        System.out.println(about + ": " + message);
    }

    void end() {
        System.out.println(wrong == 0 ? "all answers are as due" : wrong + " answers are not as due");
        if (wrong != 0) {
            System.exit(1);
        }
    }

    static String wayOf(RuleGraph x, int k) {
        StringBuilder text = new StringBuilder();
        int length = x.way(k, -1);
        for (int i = 0; i < length; i++) {
            text.append((char) x.way(k, i));
        }
        return text.toString();
    }
}
