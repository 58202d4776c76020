/** Promise 8: what each kind of module does in a block that is done, and SATURATIONS. */
public final class KindsTest {
    private static final Due DUE = new Due("KindsTest");

    public static void main(String[] args) {
        sourceKinds();
        sourcePlaces();
        shapeRamp();
        shapeHoldAndNone();
        shapeKnobSinceMade();
        filter();
        late();
        mix();
        delay();
        delayOfRowsAsTheyAre();
        gate();
        turnFromWhole();
        turnFromFloating();
        floatsAreRounded();
        switchKind();
        mean();
        loopThroughDelay();
        module0();
        insThatDoNotCount();
        DUE.end();
    }

    private static void sourceKinds() {
        int[] v = {1, 0, -1, 32767, 32768, -32768, -32769, Integer.MAX_VALUE, Integer.MIN_VALUE};
        double[][] want = {
            {1, 0, 0, 1, 1, 0, 0, 1, 0},
            {1, 0, -1, 32767, 32767, -32768, -32768, 32767, -32768},
            {1, 0, -1, 32767, 32768, -32768, -32769, 2147483647.0, -2147483648.0},
            {1 / 256.0, 0, -1 / 256.0, 32767 / 256.0, 128, -128, -32769 / 256.0, 1000000, Rig.NONE},
            {1 / 256.0, 0, -1 / 256.0, 32767 / 256.0, 128, -128, -32769 / 256.0, 1000000, Rig.NONE},
        };
        for (int rowKind = 0; rowKind < 5; rowKind++) {
            CordBay bay = new CordBay();
            int m = Rig.source(bay, rowKind, 3, v);
            DUE.done("SOURCE", bay, 9);
            DUE.row("SOURCE", bay, m, rowKind, want[rowKind]);
            DUE.is("SOURCE of kind " + rowKind + ": saturations", bay.count(10 + m), rowKind == Rig.SHORTS ? 4 : 0);
        }
        CordBay low = new CordBay();
        int m = Rig.source(low, Rig.DOUBLES, 0, -256000000, -256000001, 256000000, 255999999, Integer.MIN_VALUE + 1);
        DUE.done("SOURCE at the ends", low, 5);
        DUE.row("SOURCE at the ends", low, m, Rig.DOUBLES, -1000000, -1000000, 1000000, 999999.99609375, -1000000);
        DUE.is("holding doubles is no saturation", low.count(10 + m), 0);
    }

    private static void sourcePlaces() {
        CordBay bay = new CordBay();
        int m = Rig.source(bay, Rig.INTS, 0, 10, 11, 12, 13, 14);
        bay.knob(m, 1, -2);
        DUE.done("down", bay, 4);
        DUE.row("down", bay, m, Rig.INTS, 10, 13, 11, 14);
        bay.knob(m, 1, 1000);
        DUE.done("a whole number of rounds", bay, 2);
        DUE.row("a whole number of rounds", bay, m, Rig.INTS, 12, 12);
        bay.knob(m, 1, -999);
        DUE.done("many rounds down", bay, 3);
        DUE.row("many rounds down", bay, m, Rig.INTS, 12, 13, 14);
        bay.knob(m, 1, 0);
        DUE.done("standing", bay, 16);
        DUE.is("standing: row(0, 1)", bay.row(m, 1), 16);
        DUE.bits("standing: sample(0, 15)", bay.sample(m, 15), 10);
        Rig.table(bay, 1, 7, 8);
        bay.knob(m, 0, 1);
        DUE.done("another table, the same place", bay, 1);
        DUE.row("another table, the same place", bay, m, Rig.INTS, 7);
    }

    private static void shapeRamp() {
        CordBay bay = new CordBay();
        int s = Rig.source(bay, Rig.DOUBLES, 0, 256);
        int m = Rig.behind(bay, s, Rig.SHAPE, 0);
        bay.knob(m, 0, 10);
        DUE.done("ramp of 3", bay, 3);
        DUE.row("ramp of 3", bay, m, Rig.DOUBLES, (0 + 10.0 / 3) / 8, (0 + 20.0 / 3) / 8, (0 + 30.0 / 3) / 8);
        bay.knob(m, 0, -7);
        DUE.done("ramp down", bay, 7);
        DUE.row("ramp down", bay, m, Rig.DOUBLES, (10 + -17.0 / 7) / 8, (10 + -34.0 / 7) / 8, (10 + -51.0 / 7) / 8,
            (10 + -68.0 / 7) / 8, (10 + -85.0 / 7) / 8, (10 + -102.0 / 7) / 8, (10 + -119.0 / 7) / 8);
        DUE.done("standing knob", bay, 2);
        DUE.row("standing knob", bay, m, Rig.DOUBLES, -0.875, -0.875);
        bay.cord(-1, m, 0);
        bay.knob(m, 0, 100);
        bay.block(2);
        bay.knob(m, 0, 9);
        bay.cord(s, m, 0);
        DUE.done("a block not done leaves the ramp", bay, 1);
        DUE.row("a block not done leaves the ramp", bay, m, Rig.DOUBLES, 1.125);
        bay.knob(m, 0, 500);
        bay.knob(m, 0, 1);
        DUE.done("only what it was in a block counts", bay, 2);
        DUE.row("only what it was in a block counts", bay, m, Rig.DOUBLES, 0.625, 0.125);
    }

    private static void shapeHoldAndNone() {
        CordBay bay = new CordBay();
        int s = Rig.source(bay, Rig.DOUBLES, 0, 256000000, -256000000, Integer.MIN_VALUE, 0, -256);
        int m = Rig.behind(bay, s, Rig.SHAPE, 0);
        bay.knob(m, 0, 1000);
        bay.block(5);
        DUE.row("held", bay, m, Rig.DOUBLES, 1000000, -1000000, Rig.NONE, 0, -125);
        DUE.is("held doubles are no saturation", bay.count(10 + m), 0);
        bay.knob(m, 0, 0);
        bay.block(5);
        bay.block(5);
        DUE.row("zeros have signs", bay, m, Rig.DOUBLES, 0, -0.0, Rig.NONE, 0, -0.0);
    }

    private static void shapeKnobSinceMade() {
        CordBay bay = new CordBay();
        int s = Rig.source(bay, Rig.DOUBLES, 0, 2048);
        bay.block(1);
        bay.block(1);
        int m = Rig.behind(bay, s, Rig.SHAPE, 0);
        bay.knob(m, 0, 4);
        DUE.done("made since the latest block", bay, 4);
        DUE.row("made since the latest block", bay, m, Rig.DOUBLES, 1, 2, 3, 4);
    }

    private static void filter() {
        for (int kind = Rig.FILTER; kind <= Rig.SLOW; kind++) {
            CordBay bay = new CordBay();
            int s = Rig.source(bay, Rig.DOUBLES, 0, 256, 512, Integer.MIN_VALUE, -256);
            int m = Rig.behind(bay, s, kind, 0);
            Rig.knobs(bay, m, 8, 4, 77);
            DUE.done("FILTER", bay, 4);
            DUE.row("FILTER", bay, m, Rig.DOUBLES, 0.25, 1.125, Rig.NONE, -0.4375);
            DUE.done("FILTER keeps", bay, 1);
            DUE.row("FILTER keeps", bay, m, Rig.DOUBLES, 1 - 0.21875);
            Rig.table(bay, 0, 256000000, -256000000);
            Rig.knobs(bay, m, 8, 8, 0);
            bay.knob(s, 0, 0);
            DUE.done("FILTER held", bay, 1);
            DUE.row("FILTER held", bay, m, Rig.DOUBLES, -1000000 + 0.78125);
            DUE.done("FILTER held", bay, 3);
            DUE.row("FILTER held", bay, m, Rig.DOUBLES, 0.78125, -999999.21875, 0.78125);
            Rig.table(bay, 0, 256000000, 256000000);
            DUE.done("FILTER held above", bay, 2);
            DUE.row("FILTER held above", bay, m, Rig.DOUBLES, 1000000, 1000000);
            bay.knob(m, 1, -1000);
            DUE.done("FILTER held below", bay, 2);
            DUE.row("FILTER held below", bay, m, Rig.DOUBLES, -1000000, 1000000);
        }
    }

    private static void late() {
        CordBay bay = new CordBay();
        int s = Rig.source(bay, Rig.DOUBLES, 0, 256, 512, Integer.MIN_VALUE, -256);
        int m = Rig.behind(bay, s, Rig.LATE, 0);
        Rig.knobs(bay, m, 8, 4, 2);
        DUE.done("LATE", bay, 4);
        // z is 0.25, 1.125, -, -0.4375; OLD ahead of each is 0, 0.0625, 0.28125, 0.28125.
        DUE.row("LATE", bay, m, Rig.DOUBLES, 0.25, 1.1875, Rig.NONE, -0.15625);
        DUE.done("LATE keeps", bay, 1);
        DUE.row("LATE keeps", bay, m, Rig.DOUBLES, 0.78125 - 0.109375);
        Rig.table(bay, 0, 256000000, 256000000);
        Rig.knobs(bay, m, 8, 0, 1000);
        DUE.done("LATE, OLD held", bay, 1);
        DUE.bits("LATE, OLD ahead of it", bay.sample(m, 0), 1000000);
        Rig.table(bay, 0, -256000000, -256000000);
        DUE.done("LATE, OLD held", bay, 2);
        DUE.row("LATE, OLD held", bay, m, Rig.DOUBLES, 0, -1000000);
    }

    private static void mix() {
        CordBay bay = new CordBay();
        int a = Rig.source(bay, Rig.INTS, 0, 2147483647, -2147483647, 5);
        int b = Rig.source(bay, Rig.INTS, 1, 1, -2, 6);
        int c = Rig.source(bay, Rig.INTS, 2, -1, -3, 7);
        int m = bay.module(Rig.MIX, 0);
        DUE.done("MIX of nothing", bay, 3);
        DUE.noRow("MIX of nothing", bay, m);
        bay.cord(b, m, 1);
        DUE.done("MIX of in 1", bay, 3);
        DUE.row("MIX of in 1", bay, m, Rig.INTS, 1, -2, 6);
        bay.cord(a, m, 0);
        DUE.done("MIX of two", bay, 3);
        DUE.row("MIX of two", bay, m, Rig.INTS, 2147483647, -2147483648.0, 11);
        DUE.is("MIX of two: saturations", bay.count(10 + m), 2);
        bay.cord(c, m, 2);
        DUE.done("MIX of three is held once, at the end", bay, 3);
        DUE.row("MIX of three", bay, m, Rig.INTS, 2147483647, -2147483648.0, 18);
        DUE.is("MIX of three: saturations", bay.count(10 + m), 3);
        int empty = bay.module(Rig.DELAY, 0);
        bay.cord(empty, m, 0);
        DUE.done("MIX passes over an in that gives none", bay, 3);
        DUE.row("MIX passes over an in that gives none", bay, m, Rig.INTS, 0, -5, 13);
        bay.cord(b, m, 0);
        DUE.done("MIX of the same module twice", bay, 3);
        DUE.row("MIX of the same module twice", bay, m, Rig.INTS, 1, -7, 19);
        DUE.is("saturations of another", bay.count(10 + a), 0);
    }

    private static void delay() {
        CordBay bay = new CordBay();
        int s = Rig.source(bay, Rig.INTS, 0, 1, 2, 3, 4, 5, 6, 7, 8, 9, 10, 11, 12);
        int[] knobs = {-1000, 0, 1, 2, 3, 4, 5, 1000};
        int[] ago = {1, 1, 1, 2, 3, 4, 4, 4};
        int[] delays = new int[8];
        for (int i = 0; i < 8; i++) {
            delays[i] = Rig.behind(bay, s, Rig.DELAY, 0);
            bay.knob(delays[i], 0, knobs[i]);
        }
        int late = -1;
        for (int block = 1; block <= 8; block++) {
            if (block == 5) {
                late = Rig.behind(bay, s, Rig.DELAY, 0);
                bay.knob(late, 0, 2);
            }
            DUE.done("DELAY", bay, 1);
            for (int i = 0; i < 8; i++) {
                delayGives(bay, delays[i], block - ago[i]);
            }
            if (late >= 0) {
                delayGives(bay, late, block - 2 < 5 ? 0 : block - 2);
            }
        }
        bay.cord(-1, delays[0], 0);
        bay.block(1);
        DUE.row("fed ahead of it", bay, delays[0], Rig.INTS, 8);
        bay.block(1);
        DUE.noRow("fed none", bay, delays[0]);
        bay.cord(late, delays[0], 0);
        bay.block(1);
        bay.block(1);
        DUE.row("a DELAY of a DELAY", bay, delays[0], Rig.INTS, 9);
        bay.knob(delays[5], 0, 1);
        bay.block(1);
        DUE.row("KNOB 0 as it is now", bay, delays[5], Rig.INTS, 12);
        DUE.is("DELAY has no saturations", bay.count(10 + delays[7]), 0);
    }

    private static void delayGives(CordBay bay, int m, int value) {
        if (value < 1) {
            DUE.noRow("DELAY with too few blocks", bay, m);
        } else {
            DUE.row("DELAY", bay, m, Rig.INTS, value);
        }
    }

    private static void delayOfRowsAsTheyAre() {
        CordBay bay = new CordBay();
        int s = Rig.source(bay, Rig.FLOATS, 0, 256, Integer.MIN_VALUE, 3);
        int m = Rig.behind(bay, s, Rig.DELAY, Rig.GATES);
        bay.block(3);
        bay.block(1);
        DUE.row("DELAY gives it as it is", bay, m, Rig.FLOATS, 1, Rig.NONE, 3 / 256.0);
        bay.block(16);
        DUE.is("a shorter row in a longer block", bay.row(m, 1), 1);
    }

    private static void gate() {
        CordBay bay = new CordBay();
        int s = Rig.source(bay, Rig.DOUBLES, 0, 255, 256, 0, Integer.MIN_VALUE, -255, -256, 0, -257, 257, -1000);
        int m = Rig.behind(bay, s, Rig.GATE, Rig.DOUBLES);
        Rig.knobs(bay, m, 8, -8, 0);
        DUE.done("GATE", bay, 9);
        DUE.row("GATE", bay, m, Rig.GATES, 0, 1, 1, 1, 1, 0, 0, 0, 1);
        bay.knob(m, 1, -100);
        DUE.done("GATE keeps UP", bay, 2);
        DUE.row("GATE keeps UP", bay, m, Rig.GATES, 1, 1);
        Rig.knobs(bay, m, -8, 8, 0);
        bay.back(1);
        bay.block(1);
        DUE.row("KNOB 1 is looked at second", bay, m, Rig.GATES, 0);
        bay.block(2);
        DUE.row("KNOB 0 is looked at first", bay, m, Rig.GATES, 1, 1);
    }

    private static void turnFromWhole() {
        int[] v = {2, 0, -3, 40000, Integer.MIN_VALUE};
        double[][] want = {
            {1, 0, 0, 1, 0}, {2, 0, -3, 32767, -32768}, {2, 0, -3, 40000, -2147483648.0},
            {2 / 256.0, 0, -3 / 256.0, 156.25, -1000000}, {2 / 256.0, 0, -3 / 256.0, 156.25, -1000000},
        };
        for (int rowKind = 0; rowKind < 5; rowKind++) {
            CordBay bay = new CordBay();
            int s = Rig.source(bay, Rig.INTS, 0, v);
            int m = Rig.behind(bay, s, Rig.TURN, rowKind);
            int shorts = Rig.source(bay, Rig.SHORTS, 1, 2, 0, -3, 32767, -32768);
            int ofShorts = Rig.behind(bay, shorts, Rig.TURN, rowKind);
            int gates = Rig.source(bay, Rig.GATES, 2, 2, 0, -3, 1, 1);
            int ofGates = Rig.behind(bay, gates, Rig.TURN, rowKind);
            DUE.done("TURN", bay, 5);
            DUE.row("TURN from INTS", bay, m, rowKind, want[rowKind]);
            DUE.is("TURN from INTS: saturations", bay.count(10 + m), rowKind == Rig.SHORTS ? 2 : 0);
            DUE.is("TURN from SHORTS: saturations", bay.count(10 + ofShorts), 0);
            double part = rowKind >= Rig.FLOATS ? 256 : 1;
            DUE.bits("TURN from SHORTS", bay.sample(ofShorts, 4), rowKind == Rig.GATES ? 0 : -32768 / part);
            DUE.bits("TURN from SHORTS", bay.sample(ofShorts, 3), rowKind == Rig.GATES ? 1 : 32767 / part);
            DUE.row("TURN from GATES", bay, ofGates, rowKind, 1 / part, 0, 0, 1 / part, 1 / part);
        }
    }

    private static void turnFromFloating() {
        // The SHAPE makes 1/8 of each, so that there are parts of 1/256.
        int[] v = {8 * 256, 12, -12, 8 * 32767 + 7, 8 * 32768, -8 * 32768 - 7, -8 * 32769, Integer.MIN_VALUE, 0};
        double[] x = new double[9];
        for (int i = 0; i < 9; i++) {
            x[i] = v[i] == Integer.MIN_VALUE ? Rig.NONE : v[i] / 2048.0;
        }
        double[][] want = {
            {1, 1, 0, 1, 1, 0, 0, 0, 0}, {256, 1, -1, 32767, 32767, -32768, -32768, 0, 0},
            {256, 1, -1, 32767, 32768, -32768, -32769, 0, 0}, x, x,
        };
        for (int rowKind = 0; rowKind < 5; rowKind++) {
            CordBay bay = new CordBay();
            int s = Rig.source(bay, Rig.DOUBLES, 0, v);
            int shape = Rig.behind(bay, s, Rig.SHAPE, 0);
            int m = Rig.behind(bay, shape, Rig.TURN, rowKind);
            int floats = Rig.behind(bay, shape, Rig.TURN, Rig.FLOATS);
            int again = Rig.behind(bay, floats, Rig.TURN, rowKind);
            bay.knob(shape, 0, 1);
            bay.knob(s, 1, 0);
            bay.block(1);
            bay.block(1);
            bay.knob(s, 1, 1);
            DUE.done("TURN from DOUBLES", bay, 9);
            DUE.row("TURN from DOUBLES", bay, m, rowKind, want[rowKind]);
            DUE.is("TURN from DOUBLES: saturations", bay.count(10 + m), rowKind == Rig.SHORTS ? 2 : 0);
            DUE.row("TURN from FLOATS", bay, again, rowKind, want[rowKind]);
            DUE.is("TURN from FLOATS: saturations", bay.count(10 + again), rowKind == Rig.SHORTS ? 2 : 0);
        }
        CordBay ends = new CordBay();
        int s = Rig.source(ends, Rig.DOUBLES, 0, Integer.MAX_VALUE, -Integer.MAX_VALUE);
        int ints = Rig.behind(ends, s, Rig.TURN, Rig.INTS);
        ends.block(2);
        DUE.row("TURN of the ends", ends, ints, Rig.INTS, 256000000, -256000000);
    }

    private static void floatsAreRounded() {
        CordBay bay = new CordBay();
        int s = Rig.source(bay, Rig.DOUBLES, 0, 16777217, 16777219, 16777218, -16777217);
        int f = Rig.source(bay, Rig.FLOATS, 1, 16777217, 16777219, 16777218, -16777217);
        int ints = Rig.source(bay, Rig.INTS, 2, 16777217, 16777219, 16777218, -16777217);
        int ofDoubles = Rig.behind(bay, s, Rig.TURN, Rig.FLOATS);
        int ofInts = Rig.behind(bay, ints, Rig.TURN, Rig.FLOATS);
        int back = Rig.behind(bay, ofDoubles, Rig.TURN, Rig.DOUBLES);
        bay.block(4);
        DUE.row("doubles", bay, s, Rig.DOUBLES, 65536.00390625, 65536.01171875, 65536.0078125, -65536.00390625);
        for (int m : new int[] {f, ofDoubles, ofInts}) {
            DUE.row("floats, a tie goes to the even one", bay, m, Rig.FLOATS, 65536, 65536.015625, 65536.0078125, -65536);
        }
        DUE.row("and back", bay, back, Rig.DOUBLES, 65536, 65536.015625, 65536.0078125, -65536);
        tinyFloats();
    }

    /** A chain of SHAPES by 1/8 makes numbers that no float but a zero with their sign is near to. */
    private static void tinyFloats() {
        CordBay bay = new CordBay();
        int s = Rig.source(bay, Rig.DOUBLES, 0, -1);
        int filter = Rig.behind(bay, s, Rig.FILTER, 0);
        int turn = Rig.behind(bay, filter, Rig.TURN, Rig.FLOATS);
        Rig.knobs(bay, filter, 8, 1, 0);
        bay.block(1);
        bay.block(1);
        Rig.table(bay, 0, 0);
        double kept = -1 / 256.0 - 1 / 2048.0;
        for (int i = 0; i < 60; i++) {
            bay.block(1);
            kept = 0.0 + kept * 0.125;
            DUE.bits("small doubles", bay.sample(filter, 0), kept);
            DUE.bits("small floats", bay.sample(turn, 0), (float) kept);
        }
        DUE.bits("a float that is -0", bay.sample(turn, 0), -0.0);
        DUE.is("it is silent", bay.row(turn, 2), 1);
        DUE.is("the double is not", bay.row(filter, 2), 0);
    }

    private static void switchKind() {
        CordBay bay = new CordBay();
        int s = Rig.source(bay, Rig.SHORTS, 0, 5, 6, 7);
        int g = Rig.source(bay, Rig.GATES, 1, 1, 0, 1, 1, 0);
        int m = Rig.behind(bay, s, Rig.SWITCH, Rig.DOUBLES);
        bay.cord(g, m, 1);
        DUE.done("SWITCH shut", bay, 2);
        DUE.noRow("SWITCH shut", bay, m);
        DUE.done("SWITCH open", bay, 2);
        DUE.row("SWITCH open", bay, m, Rig.SHORTS, 7, 5);
        int d = Rig.behind(bay, s, Rig.DELAY, 0);
        bay.block(3);
        bay.cord(d, m, 0);
        DUE.done("SWITCH open", bay, 2);
        DUE.row("SWITCH gives a row as it is", bay, m, Rig.SHORTS, 6, 7, 5);
    }

    private static void mean() {
        CordBay bay = new CordBay();
        int s = Rig.source(bay, Rig.INTS, 0, 7, -20, 6, -1);
        int m = Rig.behind(bay, s, Rig.MEAN, 0);
        bay.knob(m, 0, 2);
        DUE.done("MEAN", bay, 4);
        DUE.row("MEAN", bay, m, Rig.INTS, 3, -4, -1, -1);
        bay.knob(m, 0, -4);
        DUE.done("MEAN by less than 0", bay, 4);
        DUE.row("MEAN by less than 0", bay, m, Rig.INTS, -1, 4, 3, 8);
        DUE.is("MEAN: no saturations", bay.count(10 + m), 0);
        Rig.table(bay, 0, Integer.MIN_VALUE);
        bay.knob(m, 0, -1);
        DUE.done("MEAN held", bay, 1);
        DUE.row("MEAN held", bay, m, Rig.INTS, 2147483647);
        DUE.is("MEAN held: saturations", bay.count(10 + m), 1);
        bay.knob(m, 0, 1);
        DUE.done("MEAN of a long sum", bay, 16);
        DUE.bits("MEAN of a long sum", bay.sample(m, 15), -2147483648.0);
        bay.knob(m, 0, -16);
        DUE.done("MEAN of a long sum, saturated", bay, 16);
        DUE.bits("its last", bay.sample(m, 15), 2147483647);
        DUE.bits("its first", bay.sample(m, 0), 134217728);
        // (k + 1) / (16 - k) of 2^31 is not below 2^31 from k = 8 on.
        DUE.is("MEAN saturated: saturations", bay.count(10 + m), 1 + 8);
    }

    private static void loopThroughDelay() {
        CordBay bay = new CordBay();
        int s = Rig.source(bay, Rig.INTS, 0, 1, 10);
        int d = bay.module(Rig.DELAY, 0);
        int m = Rig.behind(bay, s, Rig.MIX, 0);
        bay.cord(d, m, 1);
        DUE.is("a loop passes a delay", bay.cord(m, d, 0), 1);
        for (int block = 1; block <= 5; block++) {
            DUE.done("loop", bay, 2);
            DUE.row("loop", bay, m, Rig.INTS, block, 10 * block);
        }
    }

    private static void module0() {
        CordBay bay = new CordBay();
        int d = bay.module(Rig.DELAY, 0);
        int s = Rig.source(bay, Rig.INTS, 0, 4);
        bay.cord(s, d, 0);
        bay.block(1);
        bay.block(1);
        DUE.row("module 0 is fed", bay, d, Rig.INTS, 4);
        bay = new CordBay();
        int shape = bay.module(Rig.SHAPE, 0);
        s = Rig.source(bay, Rig.DOUBLES, 0, 2048);
        bay.cord(s, shape, 0);
        bay.knob(shape, 0, 6);
        bay.block(2);
        DUE.row("module 0 comes to its knob", bay, shape, Rig.DOUBLES, 3, 6);
        bay.block(2);
        DUE.row("module 0 has come to its knob", bay, shape, Rig.DOUBLES, 6, 6);
    }

    private static void insThatDoNotCount() {
        CordBay bay = new CordBay();
        int none = bay.module(Rig.DELAY, 0);
        int s = Rig.source(bay, Rig.DOUBLES, 0, 256);
        bay.cord(none, s, 0);
        bay.cord(none, s, 1);
        int m = Rig.behind(bay, s, Rig.GATE, 0);
        bay.cord(none, m, 1);
        bay.cord(s, none, 1);
        DUE.done("ins that are not named", bay, 1);
        DUE.done("ins that are not named", bay, 1);
        DUE.noRow("in 1 of a DELAY", bay, none);
    }
}
