/** Compares answers with those that are due, and ends a test's main method. */
final class Due {
    private final String test;
    private int asked = 0;
    private int wrong = 0;

    Due(String test) {
        this.test = test;
    }

    void is(String call, long got, long want) {
        asked++;
        if (got != want) {
            tell(call + " answered " + got + ", due is " + want);
        }
    }

    void is(String call, boolean got, boolean want) {
        asked++;
        if (got != want) {
            tell(call + " answered " + got + ", due is " + want);
        }
    }

    void is(String call, String got, String want) {
        asked++;
        if (!got.equals(want)) {
            tell(call + " answered " + got + ", due is " + want);
        }
    }

    /** Bit for bit: -0.0 is not 0.0. */
    void bits(String call, double got, double want) {
        asked++;
        if (Double.doubleToLongBits(got) != Double.doubleToLongBits(want)) {
            tell(call + " answered " + got + ", due is " + want);
        }
    }

    /** The whole row that a module gives; NaN stands for NO NUMBER. */
    void row(String what, CordBay bay, int m, int kind, double... want) {
        is(what + ": row(" + m + ", 0)", bay.row(m, 0), kind);
        is(what + ": row(" + m + ", 1)", bay.row(m, 1), want.length);
        for (int i = 0; i < want.length; i++) {
            boolean none = want[i] != want[i];
            is(what + ": isNone(" + m + ", " + i + ")", bay.isNone(m, i), none);
            bits(what + ": sample(" + m + ", " + i + ")", bay.sample(m, i), none ? 0 : want[i]);
        }
    }

    void noRow(String what, CordBay bay, int m) {
        is(what + ": row(" + m + ", 0)", bay.row(m, 0), -1);
    }

    /** The block fails so, at this module and sample. */
    void fails(String what, CordBay bay, int n, int finding, int m, int sample) {
        is(what + ": block(" + n + ")", bay.block(n), finding);
        is(what + ": finding(0)", bay.finding(0), finding);
        is(what + ": finding(1)", bay.finding(1), m);
        is(what + ": finding(2)", bay.finding(2), sample);
    }

    void done(String what, CordBay bay, int n) {
        is(what + ": block(" + n + ")", bay.block(n), 0);
        is(what + ": finding(0)", bay.finding(0), -1);
    }

    private void tell(String text) {
        wrong++;
        System.out.println(test + ": " + text);
    }

    void end() {
        System.out.println(test + ": " + asked + " answers, " + wrong + " wrong");
        if (wrong != 0 || asked == 0) {
            System.exit(1);
        }
    }
}
