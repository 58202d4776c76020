/** 'Terms', what is held and how long rows are: at each boundary, one below it and one above it. */
public final class EdgeRangesTest {
    private static final Due DUE = new Due("EdgeRangesTest");
    private static final int MOST = Integer.MAX_VALUE;
    private static final int LEAST = Integer.MIN_VALUE;

    public static void main(String[] args) {
        gatesAreAbove0();
        shortsHeldBySource();
        shortsHeldByTurnOfInts();
        shortsHeldByTurnOfDoubles();
        intsHeldByMix();
        intsHeldByMixOfThree();
        intsHeldByMean();
        floatingHeldBySource();
        floatingHeldByTurn();
        floatingHeldByShape();
        floatingHeldByFilter();
        floatingHeldByLate();
        oldHeldByLate();
        floatsAreTheNearest();
        ofTwoTheEvenDouble();
        noNumberIsTheLeastInt();
        blockLengths();
        DUE.end();
    }

    /** What a SOURCE of this row kind makes of v; how many saturations it counts. */
    private static void sourceOf(int rowKind, int v, double want, int saturations) {
        CordBay bay = new CordBay();
        int m = Rig.source(bay, rowKind, 0, v);
        DUE.done("SOURCE of " + v, bay, 1);
        DUE.row("SOURCE of " + v, bay, m, rowKind, want);
        DUE.is("SOURCE of " + v + ": saturations", bay.count(10 + m), saturations);
    }

    /** What a TURN makes of v that comes by a SOURCE of another row kind. */
    private static void turnOf(int fromKind, int v, int rowKind, double want, int saturations) {
        CordBay bay = new CordBay();
        int s = Rig.source(bay, fromKind, 0, v);
        int m = Rig.behind(bay, s, Rig.TURN, rowKind);
        String what = "TURN of " + v + " from " + fromKind + " to " + rowKind;
        DUE.done(what, bay, 1);
        DUE.row(what, bay, m, rowKind, want);
        DUE.is(what + ": saturations", bay.count(10 + m), saturations);
    }

    // "GATES (0 or 1)", "1 if v is above 0, else 0"
    private static void gatesAreAbove0() {
        int[] v = {LEAST, -1, 0, 1, 2, MOST};
        double[] want = {0, 0, 0, 1, 1, 1};
        for (int i = 0; i < v.length; i++) {
            sourceOf(Rig.GATES, v[i], want[i], 0);
            turnOf(Rig.INTS, v[i], Rig.GATES, want[i], 0);
        }
        for (int v1 = -1; v1 <= 1; v1++) {
            turnOf(Rig.SHORTS, v1, Rig.GATES, v1 > 0 ? 1 : 0, 0);
            turnOf(Rig.GATES, v1, Rig.GATES, v1 > 0 ? 1 : 0, 0);
            turnOf(Rig.FLOATS, v1, Rig.GATES, v1 > 0 ? 1 : 0, 0);
            turnOf(Rig.DOUBLES, v1, Rig.GATES, v1 > 0 ? 1 : 0, 0);
        }
    }

    // "SHORTS: held"; "the first two are a SATURATION of the module at hand, if that is another one"
    private static void shortsHeldBySource() {
        sourceOf(Rig.SHORTS, -32767, -32767, 0);
        sourceOf(Rig.SHORTS, -32768, -32768, 0);
        sourceOf(Rig.SHORTS, -32769, -32768, 1);
        sourceOf(Rig.SHORTS, LEAST, -32768, 1);
        sourceOf(Rig.SHORTS, 32766, 32766, 0);
        sourceOf(Rig.SHORTS, 32767, 32767, 0);
        sourceOf(Rig.SHORTS, 32768, 32767, 1);
        sourceOf(Rig.SHORTS, MOST, 32767, 1);
        sourceOf(Rig.INTS, 32768, 32768, 0);
        sourceOf(Rig.INTS, MOST, MOST, 0);
        sourceOf(Rig.INTS, LEAST, LEAST, 0);
    }

    // "From GATES, SHORTS, INTS v: ... into SHORTS held; into INTS v"
    private static void shortsHeldByTurnOfInts() {
        int[] v = {-32767, -32768, -32769, LEAST, 32766, 32767, 32768, MOST};
        double[] want = {-32767, -32768, -32768, -32768, 32766, 32767, 32767, 32767};
        int[] saturations = {0, 0, 1, 1, 0, 0, 1, 1};
        for (int i = 0; i < v.length; i++) {
            turnOf(Rig.INTS, v[i], Rig.SHORTS, want[i], saturations[i]);
            turnOf(Rig.INTS, v[i], Rig.INTS, v[i], 0);
            // The SOURCE of SHORTS has held it already, so the TURN has nothing to hold.
            turnOf(Rig.SHORTS, v[i], Rig.SHORTS, want[i], 0);
        }
    }

    // "x * 256, cut off towards 0, held to 16 bits for SHORTS": cut off ahead of being held
    private static void shortsHeldByTurnOfDoubles() {
        int[] eighths = {8 * 32767, 8 * 32767 + 7, 8 * 32768, -8 * 32768, -8 * 32768 - 7, -8 * 32769};
        double[] shorts = {32767, 32767, 32767, -32768, -32768, -32768};
        double[] ints = {32767, 32767, 32768, -32768, -32768, -32769};
        int[] saturations = {0, 0, 1, 0, 0, 1};
        for (int i = 0; i < eighths.length; i++) {
            CordBay bay = new CordBay();
            int x = eighth(bay, eighths[i]);
            int toShorts = Rig.behind(bay, x, Rig.TURN, Rig.SHORTS);
            int toInts = Rig.behind(bay, x, Rig.TURN, Rig.INTS);
            DUE.done("TURN of eighths", bay, 1);
            DUE.row("TURN of " + eighths[i] + " eighths", bay, toShorts, Rig.SHORTS, shorts[i]);
            DUE.is("its saturations", bay.count(10 + toShorts), saturations[i]);
            DUE.row("TURN of " + eighths[i] + " eighths", bay, toInts, Rig.INTS, ints[i]);
            DUE.is("into INTS: saturations", bay.count(10 + toInts), 0);
        }
        // The whole range of floating samples fits into INTS.
        turnOf(Rig.DOUBLES, MOST, Rig.INTS, 256000000, 0);
        turnOf(Rig.DOUBLES, -MOST, Rig.INTS, -256000000, 0);
        turnOf(Rig.FLOATS, MOST, Rig.SHORTS, 32767, 1);
        turnOf(Rig.FLOATS, -MOST, Rig.SHORTS, -32768, 1);
    }

    /** A SHAPE that gives v / 8 / 256 in a block of 1. */
    private static int eighth(CordBay bay, int v) {
        int s = Rig.source(bay, Rig.DOUBLES, 0, v);
        int m = Rig.behind(bay, s, Rig.SHAPE, 0);
        bay.knob(m, 0, 1);
        return m;
    }

    // "MIX: ... the sum of their samples (in 0 first), held"
    private static void intsHeldByMix() {
        int[][] pairs = {{MOST, -1}, {MOST, 0}, {MOST, 1}, {LEAST, 1}, {LEAST, 0}, {LEAST, -1}, {MOST, MOST}, {LEAST, LEAST}};
        double[] want = {MOST - 1.0, MOST, MOST, LEAST + 1.0, LEAST, LEAST, MOST, LEAST};
        int[] saturations = {0, 0, 1, 0, 0, 1, 1, 1};
        for (int i = 0; i < pairs.length; i++) {
            CordBay bay = new CordBay();
            int a = Rig.source(bay, Rig.INTS, 0, pairs[i][0]);
            int b = Rig.source(bay, Rig.INTS, 1, pairs[i][1]);
            int m = Rig.behind(bay, a, Rig.MIX, 0);
            bay.cord(b, m, 2);
            String what = "MIX of " + pairs[i][0] + " and " + pairs[i][1];
            DUE.done(what, bay, 1);
            DUE.row(what, bay, m, Rig.INTS, want[i]);
            DUE.is(what + ": saturations", bay.count(10 + m), saturations[i]);
        }
    }

    // Three of them: one sum, held once.
    private static void intsHeldByMixOfThree() {
        int[][] threes = {{MOST, 1, -1}, {MOST, 1, -2}, {MOST, 1, 0}, {LEAST, -1, 1}, {LEAST, -1, 2}, {MOST, MOST, LEAST},
            {MOST, MOST, MOST}, {LEAST, LEAST, LEAST}};
        double[] want = {MOST, MOST - 1.0, MOST, LEAST, LEAST + 1.0, MOST - 1.0, MOST, LEAST};
        int[] saturations = {0, 0, 1, 0, 0, 0, 1, 1};
        for (int i = 0; i < threes.length; i++) {
            CordBay bay = new CordBay();
            int m = bay.module(Rig.MIX, 0);
            for (int in = 0; in < 3; in++) {
                bay.cord(Rig.source(bay, Rig.INTS, in, threes[i][in]), m, in);
            }
            DUE.done("MIX of three", bay, 1);
            DUE.row("MIX of three, case " + i, bay, m, Rig.INTS, want[i]);
            DUE.is("MIX of three, case " + i + ": saturations", bay.count(10 + m), saturations[i]);
        }
    }

    // "MEAN: ... exactly, cut off towards 0, held to 32 bits"
    private static void intsHeldByMean() {
        // KNOB 0 is -2, so that at sample 1 the sum is divided by -1.
        int[][] pairs = {{MOST, 0}, {MOST, 1}, {MOST, 2}, {-MOST, 0}, {LEAST, 0}, {LEAST, -1}, {LEAST, LEAST}};
        double[] want = {-MOST, LEAST, LEAST, MOST, MOST, MOST, MOST};
        int[] saturations = {0, 0, 1, 0, 1, 1, 1};
        for (int i = 0; i < pairs.length; i++) {
            CordBay bay = new CordBay();
            int s = Rig.source(bay, Rig.INTS, 0, pairs[i]);
            int m = Rig.behind(bay, s, Rig.MEAN, 0);
            bay.knob(m, 0, -2);
            String what = "MEAN of " + pairs[i][0] + " and " + pairs[i][1];
            DUE.done(what, bay, 2);
            DUE.bits(what, bay.sample(m, 1), want[i]);
            DUE.is(what + ": saturations", bay.count(10 + m), saturations[i]);
        }
    }

    // "FLOATS, DOUBLES: v / 256, held"; the third range is no SATURATION
    private static void floatingHeldBySource() {
        sourceOf(Rig.DOUBLES, 255999999, 999999.99609375, 0);
        sourceOf(Rig.DOUBLES, 256000000, 1000000, 0);
        sourceOf(Rig.DOUBLES, 256000001, 1000000, 0);
        sourceOf(Rig.DOUBLES, MOST, 1000000, 0);
        sourceOf(Rig.DOUBLES, -255999999, -999999.99609375, 0);
        sourceOf(Rig.DOUBLES, -256000000, -1000000, 0);
        sourceOf(Rig.DOUBLES, -256000001, -1000000, 0);
        sourceOf(Rig.DOUBLES, -MOST, -1000000, 0);
        sourceOf(Rig.FLOATS, 255999984, 999999.9375, 0);
        sourceOf(Rig.FLOATS, 256000000, 1000000, 0);
        sourceOf(Rig.FLOATS, 256000001, 1000000, 0);
        sourceOf(Rig.FLOATS, MOST, 1000000, 0);
        sourceOf(Rig.FLOATS, -256000000, -1000000, 0);
        sourceOf(Rig.FLOATS, -256000100, -1000000, 0);
    }

    // "into FLOATS, DOUBLES v / 256, held"
    private static void floatingHeldByTurn() {
        int[] v = {255999999, 256000000, 256000001, MOST, -255999999, -256000000, -256000001, -MOST, LEAST};
        double[] want = {999999.99609375, 1000000, 1000000, 1000000,
            -999999.99609375, -1000000, -1000000, -1000000, -1000000};
        for (int i = 0; i < v.length; i++) {
            turnOf(Rig.INTS, v[i], Rig.DOUBLES, want[i], 0);
            turnOf(Rig.INTS, v[i], Rig.FLOATS, (float) want[i], 0);
        }
    }

    /** What a module of one block of 1 makes of v / 256 with these knobs. */
    private static void shapedTo(int kind, int v, int knob0, double want) {
        CordBay bay = new CordBay();
        int s = Rig.source(bay, Rig.DOUBLES, 0, v);
        int m = Rig.behind(bay, s, kind, 0);
        bay.knob(m, 0, knob0);
        String what = "kind " + kind + " of " + v + " by " + knob0;
        DUE.done(what, bay, 1);
        DUE.row(what, bay, m, Rig.DOUBLES, want);
        DUE.is(what + ": saturations", bay.count(10 + m), 0);
    }

    // "SHAPE: ... g * x, held"
    private static void floatingHeldByShape() {
        for (int kind = Rig.SHAPE; kind <= Rig.LATE; kind++) {
            shapedTo(kind, 256000000, 7, 875000);
            shapedTo(kind, 256000000, 8, 1000000);
            shapedTo(kind, 256000000, 9, 1000000);
            shapedTo(kind, 256000000, -7, -875000);
            shapedTo(kind, 256000000, -8, -1000000);
            shapedTo(kind, 256000000, -9, -1000000);
            shapedTo(kind, 227555555, 9, 999999.99755859375);
            shapedTo(kind, 227555556, 9, 1000000);
            shapedTo(kind, -227555555, 9, -999999.99755859375);
            shapedTo(kind, -227555556, 9, -1000000);
            shapedTo(kind, 2048000, 1000, 1000000);
            shapedTo(kind, 2048001, 1000, 1000000);
            shapedTo(kind, 2047999, 1000, 999999.51171875);
            shapedTo(kind, 2048001, -1000, -1000000);
            shapedTo(kind, 2047999, -1000, -999999.51171875);
        }
    }

    /** A bay whose module 1, its gain at 1, has made a block of these two. */
    private static CordBay twoSamples(int kind, int first, int second, int knob1, int knob2) {
        CordBay bay = new CordBay();
        int s = Rig.source(bay, Rig.DOUBLES, 0, 0);
        int m = Rig.behind(bay, s, kind, 0);
        Rig.knobs(bay, m, 8, knob1, knob2);
        bay.block(1);
        Rig.table(bay, 0, first, second);
        DUE.done("two samples", bay, 2);
        DUE.is("two samples: saturations", bay.count(10 + m), 0);
        return bay;
    }

    // "z = y + KEPT * (KNOB 1 / 8), held; KEPT becomes z"
    private static void floatingHeldByFilter() {
        int half = 128000000;
        for (int kind = Rig.FILTER; kind <= Rig.LATE; kind++) {
            int[][] pairs = {{half, half - 1}, {half, half}, {half, half + 1}};
            double[] want = {999999.99609375, 1000000, 1000000};
            for (int i = 0; i < 3; i++) {
                CordBay up = twoSamples(kind, pairs[i][0], pairs[i][1], 8, 0);
                DUE.bits("FILTER above, case " + i, up.sample(1, 1), want[i]);
                CordBay down = twoSamples(kind, -pairs[i][0], -pairs[i][1], 8, 0);
                DUE.bits("FILTER below, case " + i, down.sample(1, 1), -want[i]);
            }
            // KEPT is what was held, not the sum.
            CordBay bay = twoSamples(kind, 256000000, 256000000, 8, 0);
            Rig.table(bay, 0, -128000000, -128000000);
            DUE.done("KEPT is held", bay, 2);
            DUE.row("KEPT is held", bay, 1, Rig.DOUBLES, 500000, 0);
        }
    }

    // "it is z + OLD, held"
    private static void floatingHeldByLate() {
        int half = 128000000;
        int[] seconds = {half - 1, half, half + 1};
        double[] want = {999999.99609375, 1000000, 1000000};
        for (int i = 0; i < 3; i++) {
            CordBay up = twoSamples(Rig.LATE, half, seconds[i], 0, 8);
            DUE.bits("LATE above, case " + i, up.sample(1, 1), want[i]);
            CordBay down = twoSamples(Rig.LATE, -half, -seconds[i], 0, 8);
            DUE.bits("LATE below, case " + i, down.sample(1, 1), -want[i]);
        }
    }

    // "then OLD becomes z * (KNOB 2 / 8), held"
    private static void oldHeldByLate() {
        int[] knob2 = {7, 8, 9, 1000};
        double[] want = {-125000, 0, 0, 0};
        for (int i = 0; i < 4; i++) {
            CordBay up = twoSamples(Rig.LATE, 256000000, -256000000, 0, knob2[i]);
            DUE.bits("OLD above by " + knob2[i], up.sample(1, 1), want[i]);
            CordBay down = twoSamples(Rig.LATE, -256000000, 256000000, 0, knob2[i]);
            DUE.bits("OLD below by " + knob2[i], down.sample(1, 1), want[i] == 0 ? 0 : -want[i]);
        }
        // OLD is of z alone, not of z + OLD.
        CordBay bay = twoSamples(Rig.LATE, 256, 256, 0, 8);
        DUE.row("OLD is of z", bay, 1, Rig.DOUBLES, 1, 2);
        bay.block(2);
        DUE.row("OLD is of z", bay, 1, Rig.DOUBLES, 2, 2);
    }

    // "to the nearest float where it comes into a row of FLOATS"; "of two the one whose last bit is 0"
    private static void floatsAreTheNearest() {
        int[] v = {16777215, 16777216, 16777217, 16777218, 16777219, 16777220, 33554431, 33554433, 33554434, 33554435};
        int[] nearest = {16777215, 16777216, 16777216, 16777218, 16777220, 16777220, 33554432, 33554432, 33554432, 33554436};
        for (int i = 0; i < v.length; i++) {
            for (int sign = -1; sign <= 1; sign += 2) {
                double want = sign * nearest[i] / 256.0;
                sourceOf(Rig.FLOATS, sign * v[i], want, 0);
                turnOf(Rig.INTS, sign * v[i], Rig.FLOATS, want, 0);
                turnOf(Rig.DOUBLES, sign * v[i], Rig.FLOATS, want, 0);
                turnOf(Rig.FLOATS, sign * v[i], Rig.DOUBLES, want, 0);
                sourceOf(Rig.DOUBLES, sign * v[i], sign * v[i] / 256.0, 0);
            }
        }
        // The nearest float of what is just below the end is the end.
        sourceOf(Rig.FLOATS, 255999991, 999999.9375, 0);
        sourceOf(Rig.FLOATS, 255999992, 1000000, 0);
        sourceOf(Rig.FLOATS, 255999999, 1000000, 0);
    }

    // "each step rounded to the nearest double, of two the one whose last bit is 0"
    private static void ofTwoTheEvenDouble() {
        double[] want = {1 + 0x1p-51, 1 + 0x1p-52, 1};
        for (int i = 0; i < 3; i++) {
            // KEPT is 1, then halved so often that it is 2^-50 and less.
            CordBay bay = new CordBay();
            int s = Rig.source(bay, Rig.DOUBLES, 0, 256, 0);
            int m = Rig.behind(bay, s, Rig.FILTER, 0);
            Rig.knobs(bay, m, 8, 4, 0);
            bay.block(1);
            bay.knob(s, 1, 0);
            for (int left = 50 + i; left > 0; left -= 16) {
                bay.block(Math.min(left, 16));
            }
            DUE.bits("halved", bay.sample(m, bay.row(m, 1) - 1), Math.scalb(1.0, -50 - i));
            Rig.table(bay, 0, 256, 256);
            DUE.done("1 and a half of that", bay, 1);
            DUE.row("1 and a half of that", bay, m, Rig.DOUBLES, want[i]);
        }
    }

    // "but NO NUMBER, if v is -2^31": of a SOURCE of FLOATS or DOUBLES alone
    private static void noNumberIsTheLeastInt() {
        sourceOf(Rig.DOUBLES, LEAST, Rig.NONE, 0);
        sourceOf(Rig.DOUBLES, LEAST + 1, -1000000, 0);
        sourceOf(Rig.DOUBLES, MOST, 1000000, 0);
        sourceOf(Rig.FLOATS, LEAST, Rig.NONE, 0);
        sourceOf(Rig.FLOATS, LEAST + 1, -1000000, 0);
        sourceOf(Rig.INTS, LEAST, LEAST, 0);
        sourceOf(Rig.SHORTS, LEAST, -32768, 1);
        sourceOf(Rig.GATES, LEAST, 0, 0);
        turnOf(Rig.INTS, LEAST, Rig.DOUBLES, -1000000, 0);
        turnOf(Rig.INTS, LEAST, Rig.FLOATS, -1000000, 0);
        for (int fromKind = Rig.FLOATS; fromKind <= Rig.DOUBLES; fromKind++) {
            turnOf(fromKind, LEAST, Rig.GATES, 0, 0);
            turnOf(fromKind, LEAST, Rig.SHORTS, 0, 0);
            turnOf(fromKind, LEAST, Rig.INTS, 0, 0);
            turnOf(fromKind, LEAST, Rig.FLOATS, Rig.NONE, 0);
            turnOf(fromKind, LEAST, Rig.DOUBLES, Rig.NONE, 0);
        }
    }

    // "ROWS of samples are 1 to 16 long"; "A module that acts gives a new row, n long, or none"
    private static void blockLengths() {
        for (int n : new int[] {1, 2, 15, 16}) {
            CordBay bay = new CordBay();
            int s = Rig.source(bay, Rig.DOUBLES, 0, 256);
            int ints = Rig.source(bay, Rig.INTS, 1, 1);
            int gates = Rig.source(bay, Rig.GATES, 2, 1);
            for (int kind : new int[] {Rig.SHAPE, Rig.FILTER, Rig.SLOW, Rig.LATE, Rig.GATE, Rig.TURN, Rig.SWITCH}) {
                bay.cord(gates, Rig.behind(bay, s, kind, 0), 1);
            }
            Rig.behind(bay, ints, Rig.MIX, 0);
            bay.knob(Rig.behind(bay, ints, Rig.MEAN, 0), 0, 1);
            DUE.done("all kinds", bay, n);
            for (int m = 0; m < bay.count(0); m++) {
                DUE.is("block(" + n + "): row(" + m + ", 1)", bay.row(m, 1), n);
            }
        }
    }
}
