/** Promises 10 to 16 and 20: presets, takes and the questions. */
public final class KeepTest {
    private static final Due DUE = new Due("KeepTest");

    public static void main(String[] args) {
        presets();
        presetOfNone();
        takes();
        takesStay();
        fortyTakes();
        equalRows();
        rowQuestions();
        sampleQuestions();
        counts();
        DUE.end();
    }

    private static void presets() {
        CordBay bay = new CordBay();
        bay.module(1, 0);
        bay.module(2, 0);
        Rig.knobs(bay, 0, 1, 2, 3);
        Rig.knobs(bay, 1, -4, -5, -6);
        for (int p : new int[] {-1, 8, Integer.MIN_VALUE, Integer.MAX_VALUE}) {
            DUE.is("keep(" + p + ")", bay.keep(p), -1);
            DUE.is("recall(" + p + ")", bay.recall(p), -1);
        }
        DUE.is("keep(7)", bay.keep(7), 2);
        bay.module(3, 0);
        Rig.knobs(bay, 0, 11, 12, 13);
        Rig.knobs(bay, 1, 14, 15, 16);
        Rig.knobs(bay, 2, 17, 18, 19);
        DUE.is("recall(6)", bay.recall(6), -2);
        DUE.is("keep(0)", bay.keep(0), 3);
        DUE.is("recall(7)", bay.recall(7), 2);
        knobsAre(bay, "preset 7", 1, 2, 3, -4, -5, -6, 17, 18, 19);
        DUE.is("recall(0)", bay.recall(0), 3);
        knobsAre(bay, "preset 0", 11, 12, 13, 14, 15, 16, 17, 18, 19);
        DUE.is("keep(7) anew", bay.keep(7), 3);
        Rig.knobs(bay, 2, 0, 0, 0);
        DUE.is("recall(7) anew", bay.recall(7), 3);
        knobsAre(bay, "preset 7 anew", 11, 12, 13, 14, 15, 16, 17, 18, 19);
    }

    private static void knobsAre(CordBay bay, String what, int... want) {
        for (int i = 0; i < want.length; i++) {
            DUE.is(what + ": knob " + i, bay.knob(i / 3, i % 3, want[i]), want[i]);
        }
    }

    private static void presetOfNone() {
        CordBay bay = new CordBay();
        DUE.is("keep(3) of no modules", bay.keep(3), 0);
        bay.module(0, 0);
        bay.knob(0, 0, 9);
        DUE.is("recall(3) of no modules", bay.recall(3), 0);
        DUE.is("the knob", bay.knob(0, 0, 9), 9);
        DUE.is("recall(2)", bay.recall(2), -2);
    }

    private static void takes() {
        CordBay bay = new CordBay();
        int s = Rig.source(bay, Rig.INTS, 0, 1, 2, 3);
        DUE.is("take of no row", bay.take(s), -2);
        DUE.is("take(1)", bay.take(1), -1);
        DUE.is("take(-1)", bay.take(-1), -1);
        bay.block(2);
        DUE.is("the first take", bay.take(s), 1);
        DUE.is("the second take", bay.take(s), 2);
        DUE.is("count(4)", bay.count(4), 2);
        for (int t : new int[] {0, -1, 3, 40, 41, Integer.MIN_VALUE, Integer.MAX_VALUE}) {
            DUE.is("equal(1, " + t + ")", bay.equal(1, t), -1);
            DUE.is("equal(" + t + ", 1)", bay.equal(t, 1), -1);
        }
        DUE.is("equal(1, 2)", bay.equal(1, 2), 1);
        CordBay other = new CordBay();
        int o = Rig.source(other, Rig.INTS, 0, 1);
        other.block(1);
        DUE.is("the first take of another bay", other.take(o), 1);
        DUE.is("not its take", other.equal(1, 2), -1);
    }

    private static void takesStay() {
        CordBay bay = new CordBay();
        int s = Rig.source(bay, Rig.INTS, 0, 1, 2, 3);
        int delay = Rig.behind(bay, s, Rig.DELAY, 0);
        bay.block(3);
        bay.take(s);
        bay.write(0, 0, 50);
        bay.block(3);
        DUE.is("another row", bay.take(s), 2);
        DUE.is("as it was", bay.take(delay), 3);
        DUE.is("equal(1, 2)", bay.equal(1, 2), 0);
        DUE.is("equal(1, 3)", bay.equal(1, 3), 1);
        bay.back(1);
        DUE.is("none is given twice", bay.take(s), 4);
        DUE.is("equal(4, 1)", bay.equal(4, 1), 1);
        DUE.is("equal(2, 4)", bay.equal(2, 4), 0);
        for (int i = 0; i < 12; i++) {
            bay.block(1 + i);
        }
        DUE.is("much later: equal(1, 3)", bay.equal(1, 3), 1);
        DUE.is("much later: equal(1, 2)", bay.equal(1, 2), 0);
    }

    private static void fortyTakes() {
        CordBay bay = new CordBay();
        int s = Rig.source(bay, Rig.INTS, 0, 1);
        int none = bay.module(Rig.DELAY, 0);
        bay.block(1);
        for (int t = 1; t <= 40; t++) {
            DUE.is("take " + t, bay.take(s), t);
        }
        DUE.is("a 41st take", bay.take(s), -3);
        DUE.is("a 41st take of no row", bay.take(none), -2);
        DUE.is("a 41st take of no module", bay.take(9), -1);
        DUE.is("count(4)", bay.count(4), 40);
        DUE.is("equal(40, 1)", bay.equal(40, 1), 1);
        DUE.is("equal(41, 1)", bay.equal(41, 1), -1);
    }

    private static void equalRows() {
        CordBay bay = new CordBay();
        int s = Rig.source(bay, Rig.DOUBLES, 0, 0, Integer.MIN_VALUE, -256);
        int shape = Rig.behind(bay, s, Rig.SHAPE, 0);
        int ints = Rig.source(bay, Rig.INTS, 1, 0);
        int shorts = Rig.source(bay, Rig.SHORTS, 1, 0);
        int zeros = Rig.source(bay, Rig.DOUBLES, 1, 0);
        bay.block(1);
        DUE.is("0", bay.take(zeros), 1);
        DUE.is("0 of INTS", bay.take(ints), 2);
        DUE.is("0 of SHORTS", bay.take(shorts), 3);
        bay.block(1);
        DUE.is("no number", bay.take(shape), 4);
        DUE.is("no number of the SOURCE", bay.take(s), 5);
        bay.block(1);
        DUE.is("-0", bay.take(shape), 6);
        DUE.bits("-0", bay.sample(shape, 0), -0.0);
        bay.block(2);
        DUE.is("0, no number", bay.take(s), 7);
        DUE.is("0, no number", bay.take(shape), 8);
        DUE.is("0, 0", bay.take(zeros), 9);
        DUE.is("equal(1, 2): kinds", bay.equal(1, 2), 0);
        DUE.is("equal(2, 3): kinds", bay.equal(2, 3), 0);
        DUE.is("equal(1, 4): no number is not 0", bay.equal(1, 4), 0);
        DUE.is("equal(4, 5): no number", bay.equal(4, 5), 1);
        DUE.is("equal(1, 6): 0 and -0", bay.equal(1, 6), 0);
        DUE.is("equal(6, 1): -0 and 0", bay.equal(6, 1), 0);
        DUE.is("equal(6, 6)", bay.equal(6, 6), 1);
        DUE.is("equal(7, 8)", bay.equal(7, 8), 1);
        DUE.is("equal(7, 9)", bay.equal(7, 9), 0);
        DUE.is("equal(1, 9): lengths", bay.equal(1, 9), 0);
        DUE.is("equal(9, 1): lengths", bay.equal(9, 1), 0);
        DUE.is("silent with -0", bay.row(zeros, 2), 1);
        bay.block(1);
        DUE.is("-0 again", bay.take(shape), 10);
        DUE.is("equal(6, 10): -0 and -0", bay.equal(6, 10), 1);
    }

    private static void rowQuestions() {
        CordBay bay = new CordBay();
        int s = Rig.source(bay, Rig.FLOATS, 0, 0, Integer.MIN_VALUE, Integer.MIN_VALUE, 1, 0, 0);
        DUE.is("row(1, 0)", bay.row(1, 0), -2);
        DUE.is("row(-1, 0)", bay.row(-1, 0), -2);
        DUE.is("row(0, -1)", bay.row(0, -1), -2);
        DUE.is("row(0, 4)", bay.row(0, 4), -2);
        for (int what = 0; what < 4; what++) {
            DUE.is("row(0, " + what + ") of none", bay.row(s, what), -1);
        }
        bay.block(1);
        rowIs(bay, s, 3, 1, 1, 0);
        bay.block(1);
        rowIs(bay, s, 3, 1, 0, 1);
        bay.block(2);
        rowIs(bay, s, 3, 2, 0, 1);
        bay.block(2);
        rowIs(bay, s, 3, 2, 1, 0);
        bay.block(16);
        rowIs(bay, s, 3, 16, 0, 6);
        DUE.is("row(0, 4)", bay.row(s, 4), -2);
        DUE.is("row(0, -1)", bay.row(s, -1), -2);
    }

    private static void rowIs(CordBay bay, int m, int kind, int length, int silent, int none) {
        DUE.is("kind", bay.row(m, 0), kind);
        DUE.is("length", bay.row(m, 1), length);
        DUE.is("silent", bay.row(m, 2), silent);
        DUE.is("no number", bay.row(m, 3), none);
    }

    private static void sampleQuestions() {
        CordBay bay = new CordBay();
        int s = Rig.source(bay, Rig.DOUBLES, 0, 256, Integer.MIN_VALUE);
        DUE.bits("none yet", bay.sample(s, 0), 0);
        DUE.is("none yet", bay.isNone(s, 1), false);
        bay.block(2);
        DUE.bits("sample(0, 0)", bay.sample(s, 0), 1);
        DUE.bits("sample(0, 1)", bay.sample(s, 1), 0);
        DUE.is("isNone(0, 0)", bay.isNone(s, 0), false);
        DUE.is("isNone(0, 1)", bay.isNone(s, 1), true);
        for (int i : new int[] {-1, 2, 16, 33, -31, Integer.MIN_VALUE, Integer.MAX_VALUE}) {
            DUE.bits("sample(0, " + i + ")", bay.sample(s, i), 0);
            DUE.is("isNone(0, " + i + ")", bay.isNone(s, i), false);
        }
        for (int m : new int[] {-1, 1, 24, Integer.MIN_VALUE, Integer.MAX_VALUE}) {
            DUE.bits("sample(" + m + ", 0)", bay.sample(m, 0), 0);
            DUE.is("isNone(" + m + ", 1)", bay.isNone(m, 1), false);
        }
    }

    private static void counts() {
        CordBay bay = new CordBay();
        int s = Rig.source(bay, Rig.SHORTS, 0, 40000);
        int mix = bay.module(Rig.MIX, 0);
        bay.cord(s, mix, 0);
        bay.cord(s, mix, 1);
        bay.cord(s, mix, 2);
        DUE.is("count(1)", bay.count(1), 3);
        bay.cord(-1, mix, 0);
        bay.cord(-1, mix, 1);
        bay.cord(-1, mix, 2);
        bay.block(5);
        bay.block(3);
        DUE.is("count(10)", bay.count(10), 8);
        DUE.is("count(11)", bay.count(11), 0);
        DUE.is("count(12)", bay.count(12), -1);
        DUE.is("count(9)", bay.count(9), -1);
        DUE.is("count(39)", bay.count(39), -1);
        DUE.is("count(40)", bay.count(40), 0);
        DUE.is("count(41)", bay.count(41), 5);
        DUE.is("count(42)", bay.count(42), -1);
        DUE.is("count(2)", bay.count(2), 2);
        bay.back(1);
        DUE.is("count(10) taken back", bay.count(10), 5);
        DUE.is("count(2) taken back", bay.count(2), 1);
        DUE.is("count(2147483647)", bay.count(Integer.MAX_VALUE), -1);
        DUE.is("count(-2147483648)", bay.count(Integer.MIN_VALUE), -1);
    }
}
