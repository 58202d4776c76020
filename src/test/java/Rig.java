/** Ways of building bays that several tests need. */
final class Rig {
    static final int SOURCE = 0;
    static final int SHAPE = 1;
    static final int FILTER = 2;
    static final int SLOW = 3;
    static final int LATE = 4;
    static final int MIX = 5;
    static final int DELAY = 6;
    static final int GATE = 7;
    static final int TURN = 8;
    static final int SWITCH = 9;
    static final int MEAN = 10;

    static final int GATES = 0;
    static final int SHORTS = 1;
    static final int INTS = 2;
    static final int FLOATS = 3;
    static final int DOUBLES = 4;

    static final double NONE = Double.NaN;

    private Rig() {
    }

    /** Fills table t. */
    static void table(CordBay bay, int t, int... values) {
        bay.table(t, values.length);
        for (int i = 0; i < values.length; i++) {
            bay.write(t, i, values[i]);
        }
    }

    /** A SOURCE that goes through table t place by place. */
    static int source(CordBay bay, int rowKind, int t, int... values) {
        table(bay, t, values);
        int m = bay.module(SOURCE, rowKind);
        bay.knob(m, 0, t);
        bay.knob(m, 1, 1);
        return m;
    }

    /** A module of this kind with a cord to its in 0. */
    static int behind(CordBay bay, int o, int kind, int rowKind) {
        int m = bay.module(kind, rowKind);
        bay.cord(o, m, 0);
        return m;
    }

    static void knobs(CordBay bay, int m, int a, int b, int c) {
        bay.knob(m, 0, a);
        bay.knob(m, 1, b);
        bay.knob(m, 2, c);
    }
}
