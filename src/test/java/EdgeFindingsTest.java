/** 'Terms', FINDINGS: where each begins, which comes first, and that a block with one leaves nothing behind. */
public final class EdgeFindingsTest {
    private static final Due DUE = new Due("EdgeFindingsTest");
    private static final int[] OF_DOUBLES = {Rig.SHAPE, Rig.FILTER, Rig.SLOW, Rig.LATE, Rig.GATE};
    private static final int[] NEED_IN_0 = {Rig.SHAPE, Rig.FILTER, Rig.SLOW, Rig.LATE, Rig.GATE, Rig.TURN, Rig.SWITCH, Rig.MEAN};

    public static void main(String[] args) {
        nowhere();
        givesNoRow();
        notOfTheKindWanted();
        notSoLong();
        kindAheadOfLength();
        in0AheadOfIn1();
        kindsAheadOfSamplesOfMix();
        mixNotSoLong();
        firstSampleCounts();
        sourceTableNumbers();
        sourceTableMissing();
        sourcePlaceThere();
        sourceLength0AheadOfPlace();
        meanDivisor0();
        meanSampleAheadOfDivisor();
        firstModuleOfTheOrder();
        insNotNamedDoNotCount();
        failedInTheMidst();
        failedAtEachModule();
        traceOfBlocks();
        DUE.end();
    }

    /** A bay with a row of this kind and length at module 1, one that gives none at 2. */
    private static CordBay bench(int rowKind, int length) {
        CordBay bay = new CordBay();
        int s = Rig.source(bay, rowKind, 0, 256);
        Rig.behind(bay, s, Rig.DELAY, 0);
        bay.module(Rig.DELAY, 0);
        if (length > 0) {
            bay.block(length);
        }
        return bay;
    }

    private static int wanted(int kind) {
        return kind == Rig.MEAN || kind == Rig.MIX ? Rig.INTS : Rig.DOUBLES;
    }

    /** A module of this kind that fails by nothing but its in 0. */
    private static int module(CordBay bay, int kind, int o) {
        int m = bay.module(kind, Rig.DOUBLES);
        bay.knob(m, 0, 1);
        bay.cord(o, m, 0);
        if (kind == Rig.SWITCH) {
            Rig.table(bay, 7, 1);
            int gates = bay.module(Rig.SOURCE, Rig.GATES);
            bay.knob(gates, 0, 7);
            bay.cord(gates, m, 1);
        }
        return m;
    }

    // "1 the in leads NOWHERE"
    private static void nowhere() {
        for (int kind : NEED_IN_0) {
            CordBay bay = bench(wanted(kind), 0);
            int m = module(bay, kind, 0);
            DUE.done("kind " + kind + " has its in", bay, 1);
            bay.cord(-1, m, 0);
            DUE.fails("kind " + kind + " has none", bay, 1, 1, m, -1);
        }
        CordBay bay = bench(Rig.INTS, 0);
        int m = module(bay, Rig.SWITCH, 0);
        bay.cord(-1, m, 1);
        DUE.fails("SWITCH has no in 1", bay, 1, 1, m, -1);
    }

    // "2 what its cord is from gives no row"
    private static void givesNoRow() {
        for (int kind : NEED_IN_0) {
            CordBay bay = bench(wanted(kind), 0);
            int m = module(bay, kind, 1);
            DUE.fails("kind " + kind + " of a DELAY that was not fed", bay, 1, 2, m, -1);
            bay.cord(0, m, 0);
            DUE.done("kind " + kind + " of a row", bay, 1);
            bay.cord(1, m, 0);
            DUE.done("kind " + kind + " of a DELAY that was fed", bay, 1);
        }
        CordBay bay = bench(Rig.INTS, 0);
        int m = module(bay, Rig.SWITCH, 0);
        bay.cord(2, m, 1);
        DUE.fails("SWITCH of no GATES", bay, 1, 2, m, -1);
    }

    // "4 the row is not of the kind wanted"
    private static void notOfTheKindWanted() {
        for (int rowKind = Rig.GATES; rowKind <= Rig.DOUBLES; rowKind++) {
            for (int kind = Rig.SHAPE; kind <= Rig.MEAN; kind++) {
                CordBay bay = bench(rowKind, 0);
                int m = module(bay, kind, 0);
                boolean any = kind == Rig.TURN || kind == Rig.SWITCH || kind == Rig.DELAY;
                if (any || rowKind == wanted(kind)) {
                    DUE.done("kind " + kind + " of " + rowKind, bay, 1);
                } else {
                    DUE.fails("kind " + kind + " of " + rowKind, bay, 1, 4, m, -1);
                }
            }
            CordBay bay = bench(rowKind, 0);
            int m = module(bay, Rig.SWITCH, 0);
            bay.cord(0, m, 1);
            if (rowKind == Rig.GATES) {
                DUE.done("SWITCH by GATES", bay, 1);
            } else {
                DUE.fails("SWITCH by " + rowKind, bay, 1, 4, m, -1);
            }
        }
    }

    // "at a sample that is wanted 3 the row is not so long"
    private static void notSoLong() {
        int[] kinds = {Rig.SHAPE, Rig.FILTER, Rig.SLOW, Rig.LATE, Rig.GATE, Rig.TURN, Rig.MEAN};
        for (int kind : kinds) {
            for (int length : new int[] {1, 2, 8, 15}) {
                for (int n : new int[] {length - 1, length, length + 1, 16}) {
                    if (n > 0) {
                        CordBay bay = bench(wanted(kind), length);
                        int m = module(bay, kind, 1);
                        String what = "kind " + kind + ", a row of " + length;
                        if (n <= length) {
                            DUE.done(what, bay, n);
                            DUE.is(what + ": row(m, 1)", bay.row(m, 1), n);
                        } else {
                            DUE.fails(what, bay, n, 3, m, length);
                        }
                    }
                }
            }
        }
    }

    // 4 is told ahead of 3: "kinds and rows are looked at when a module begins to act"
    private static void kindAheadOfLength() {
        for (int kind : OF_DOUBLES) {
            CordBay bay = bench(Rig.FLOATS, 2);
            int m = module(bay, kind, 1);
            DUE.fails("kind " + kind + ", wrong and short", bay, 3, 4, m, -1);
        }
        CordBay bay = bench(Rig.SHORTS, 2);
        int m = module(bay, Rig.MEAN, 1);
        DUE.fails("MEAN, wrong and short", bay, 3, 4, m, -1);
        bay = bench(Rig.INTS, 2);
        m = module(bay, Rig.SWITCH, 0);
        bay.cord(1, m, 1);
        DUE.fails("SWITCH, in 1 wrong and short", bay, 3, 4, m, -1);
    }

    // "in 0 ahead of in 1": every pair of what can be wrong with both
    private static void in0AheadOfIn1() {
        for (int wrong0 = 0; wrong0 <= 2; wrong0++) {
            for (int wrong1 = 0; wrong1 <= 4; wrong1++) {
                CordBay bay = bench(Rig.GATES, 2);
                int ints = Rig.source(bay, Rig.INTS, 1, 1);
                // By FINDING: 0 a row that fits, 1 NOWHERE, 2 no row, 3 one that is short, 4 another kind.
                int[] o = {0, -1, 2, 1, ints};
                int m = bay.module(Rig.SWITCH, 0);
                bay.cord(o[wrong0], m, 0);
                bay.cord(o[wrong1], m, 1);
                String what = "in 0 " + wrong0 + ", in 1 " + wrong1;
                int due = wrong0 != 0 ? wrong0 : wrong1;
                if (due == 0) {
                    DUE.done(what, bay, 3);
                } else {
                    DUE.fails(what, bay, 3, due, m, due == 3 ? 2 : -1);
                }
            }
        }
    }

    // MIX: a wrong kind at any in is told ahead of a short row at another
    private static void kindsAheadOfSamplesOfMix() {
        for (int wrong = 0; wrong < 3; wrong++) {
            for (int shorter = 0; shorter < 3; shorter++) {
                if (wrong != shorter) {
                    CordBay bay = bench(Rig.INTS, 1);
                    int shorts = Rig.source(bay, Rig.SHORTS, 1, 1);
                    int m = bay.module(Rig.MIX, 0);
                    bay.cord(1, m, shorter);
                    DUE.fails("MIX, in " + shorter + " short", bay, 2, 3, m, 1);
                    bay.cord(shorts, m, wrong);
                    DUE.fails("MIX, in " + wrong + " wrong", bay, 2, 4, m, -1);
                    // What gives none and what leads NOWHERE is not looked at.
                    bay.cord(2, m, wrong);
                    DUE.fails("MIX, in " + wrong + " none", bay, 2, 3, m, 1);
                    bay.cord(-1, m, shorter);
                    DUE.done("MIX of none", bay, 2);
                }
            }
        }
    }

    private static void mixNotSoLong() {
        for (int in = 0; in < 3; in++) {
            for (int n = 2; n <= 4; n++) {
                CordBay bay = bench(Rig.INTS, 3);
                int m = bay.module(Rig.MIX, 0);
                bay.cord(0, m, (in + 1) % 3);
                bay.cord(1, m, in);
                if (n <= 3) {
                    DUE.done("MIX of a row of 3", bay, n);
                    DUE.bits("MIX of a row of 3", bay.sample(m, n - 1), 512);
                } else {
                    DUE.fails("MIX of a row of 3", bay, n, 3, m, 3);
                }
            }
        }
    }

    // "samples one by one": of two short rows of a MIX the shorter one is told
    private static void firstSampleCounts() {
        for (int in = 0; in < 2; in++) {
            CordBay bay = bench(Rig.INTS, 3);
            int longer = Rig.behind(bay, 0, Rig.DELAY, 0);
            bay.knob(longer, 0, 2);
            bay.block(5);
            bay.block(2);
            // Module 1 was fed 2 samples, the other one, two blocks ago, 5.
            int m = bay.module(Rig.MIX, 0);
            bay.cord(1, m, in);
            bay.cord(longer, m, 1 - in);
            DUE.fails("MIX of rows of 2 and 5", bay, 6, 3, m, 2);
        }
    }

    // "Table KNOB 0 is wanted: FINDING 2, if there is none such"
    private static void sourceTableNumbers() {
        for (int t : new int[] {-1000, -1, 0, 1, 6, 7, 8, 1000}) {
            CordBay bay = new CordBay();
            for (int i = 0; i < 8; i++) {
                Rig.table(bay, i, 40 + i);
            }
            int m = bay.module(Rig.SOURCE, Rig.INTS);
            bay.knob(m, 0, t);
            if (t >= 0 && t <= 7) {
                DUE.done("SOURCE of table " + t, bay, 1);
                DUE.row("SOURCE of table " + t, bay, m, Rig.INTS, 40 + t);
            } else {
                DUE.fails("SOURCE of table " + t, bay, 1, 2, m, -1);
            }
        }
    }

    // "or it is MISSING"; "FINDING 5, if the length is 0"
    private static void sourceTableMissing() {
        CordBay bay = new CordBay();
        int m = bay.module(Rig.SOURCE, Rig.INTS);
        DUE.fails("MISSING at first", bay, 2, 2, m, -1);
        bay.table(0, 0);
        DUE.fails("of length 0", bay, 2, 5, m, 0);
        bay.table(0, 1);
        DUE.done("of length 1", bay, 2);
        bay.table(0, 0);
        DUE.fails("of length 0 again", bay, 16, 5, m, 0);
        bay.table(0, -1);
        DUE.fails("MISSING again", bay, 2, 2, m, -1);
    }

    // "FINDING 3, if the table has no such place"
    private static void sourcePlaceThere() {
        for (int place = 1; place <= 15; place++) {
            for (int length = place - 1; length <= place + 1; length++) {
                CordBay bay = new CordBay();
                bay.table(0, 16);
                int m = bay.module(Rig.SOURCE, Rig.INTS);
                bay.knob(m, 1, place);
                DUE.done("to the place", bay, 1);
                bay.table(0, length);
                String what = "place " + place + " of " + length;
                if (length > place) {
                    bay.write(0, place, 66);
                    DUE.done(what, bay, 1);
                    DUE.row(what, bay, m, Rig.INTS, 66);
                } else {
                    DUE.fails(what, bay, 3, length == 0 ? 5 : 3, m, 0);
                }
            }
        }
    }

    // "FINDING 5, if the length is 0: ahead of 3"
    private static void sourceLength0AheadOfPlace() {
        CordBay bay = new CordBay();
        Rig.table(bay, 0, 1, 2, 3);
        int m = bay.module(Rig.SOURCE, Rig.INTS);
        bay.knob(m, 1, 2);
        DUE.done("to place 2", bay, 1);
        bay.table(0, 0);
        DUE.fails("length 0", bay, 4, 5, m, 0);
        bay.table(0, 1);
        DUE.fails("length 1", bay, 4, 3, m, 0);
        bay.table(0, 2);
        DUE.fails("length 2", bay, 4, 3, m, 0);
        bay.table(0, 3);
        DUE.done("length 3", bay, 4);
    }

    // MEAN: "divided by k and KNOB 0 together ...; FINDING 5, if these are 0"
    private static void meanDivisor0() {
        for (int knob : new int[] {1, 0, -1, -2, -14, -15, -16, -1000, 1000}) {
            int at = -knob;
            for (int n : new int[] {1, at - 1, at, at + 1, at + 2, 16}) {
                if (n >= 1 && n <= 16) {
                    CordBay bay = bench(Rig.INTS, 0);
                    int m = module(bay, Rig.MEAN, 0);
                    bay.knob(m, 0, knob);
                    if (at >= 0 && at < n) {
                        DUE.fails("MEAN by " + knob, bay, n, 5, m, at);
                    } else {
                        DUE.done("MEAN by " + knob, bay, n);
                    }
                }
            }
        }
    }

    // MEAN: the sum of the samples 0 to k is wanted ahead of the division
    private static void meanSampleAheadOfDivisor() {
        for (int knob = -4; knob <= -2; knob++) {
            CordBay bay = bench(Rig.INTS, 3);
            int m = module(bay, Rig.MEAN, 1);
            bay.knob(m, 0, knob);
            if (knob == -2) {
                DUE.fails("MEAN, divisor first", bay, 6, 5, m, 2);
            } else {
                DUE.fails("MEAN, sample first", bay, 6, 3, m, 3);
            }
        }
    }

    // "the first one counts": modules act one by one in the ORDER
    private static void firstModuleOfTheOrder() {
        CordBay bay = new CordBay();
        int a = bay.module(Rig.SOURCE, 0);
        int b = bay.module(Rig.SHAPE, 0);
        int c = bay.module(Rig.DELAY, 0);
        int d = bay.module(Rig.SOURCE, 0);
        bay.table(1, 0);
        bay.knob(d, 0, 1);
        DUE.fails("a", bay, 1, 2, a, -1);
        bay.cord(d, a, 0);
        DUE.fails("b, as a waits", bay, 1, 1, b, -1);
        bay.cord(a, b, 1);
        DUE.fails("d, as b waits too", bay, 1, 5, d, 0);
        bay.table(1, 1);
        DUE.fails("a again", bay, 1, 2, a, -1);
        bay.table(0, 1);
        DUE.fails("b again", bay, 1, 1, b, -1);
        bay.cord(c, b, 0);
        DUE.fails("b of no row", bay, 1, 2, b, -1);
    }

    // "(Ins that are not named below don't count when a block is done.)"
    private static void insNotNamedDoNotCount() {
        CordBay bay = bench(Rig.DOUBLES, 1);
        int ints = Rig.source(bay, Rig.INTS, 1, 1);
        int[] kinds = {Rig.SHAPE, Rig.FILTER, Rig.SLOW, Rig.LATE, Rig.GATE, Rig.TURN};
        for (int kind : kinds) {
            int m = module(bay, kind, 0);
            for (int o : new int[] {-1, 2, 1, ints}) {
                bay.cord(o, m, 1);
                DUE.done("in 1 of kind " + kind + " from " + o, bay, 1);
            }
        }
        bay.cord(ints, 2, 1);
        bay.cord(2, 0, 0);
        bay.cord(2, 0, 1);
        DUE.done("ins of a SOURCE, in 1 of a DELAY", bay, 1);
        DUE.done("ins of a SOURCE, in 1 of a DELAY", bay, 1);
        DUE.noRow("in 1 feeds no DELAY", bay, 2);
    }

    /** A module that keeps something, behind a row of 3 that is too short for a block of 4. */
    private static CordBay shortRow(int kind, int rowKind) {
        CordBay bay = new CordBay();
        int s = Rig.source(bay, rowKind, 0, Integer.MAX_VALUE, -90000, 70000);
        int delay = Rig.behind(bay, s, Rig.DELAY, 0);
        bay.block(3);
        int m = Rig.behind(bay, delay, kind, Rig.SHORTS);
        Rig.knobs(bay, m, -5, 5, 3);
        if (kind == Rig.MIX) {
            bay.cord(delay, m, 1);
        }
        if (kind == Rig.GATE) {
            Rig.knobs(bay, m, 8, -8, 0);
        }
        return bay;
    }

    // What the failing module itself had kept and counted ahead of the sample that failed is undone too.
    private static void failedInTheMidst() {
        int[] kinds = {Rig.FILTER, Rig.SLOW, Rig.LATE, Rig.GATE, Rig.TURN, Rig.MIX, Rig.MEAN};
        for (int kind : kinds) {
            int rowKind = kind == Rig.TURN ? Rig.INTS : wanted(kind);
            CordBay bay = shortRow(kind, rowKind);
            CordBay plain = shortRow(kind, rowKind);
            DUE.fails("kind " + kind + " in the midst", bay, 4, 3, 2, 3);
            DUE.is("kind " + kind + " leaves nothing", Look.atModules(bay).equals(Look.atModules(plain)), true);
            for (int i = 1; i <= 2; i++) {
                DUE.done("kind " + kind + " goes on", bay, 3);
                DUE.done("kind " + kind + " that never failed", plain, 3);
                DUE.is("kind " + kind + " goes on", Look.atAll(bay).equals(Look.atAll(plain)), true);
            }
        }
    }

    /** Every kind, each with something to keep; modules 0, 3, 6, 9 are sources whose tables can be taken away. */
    private static CordBay allKinds() {
        CordBay bay = new CordBay();
        int s = Rig.source(bay, Rig.DOUBLES, 0, 256, 70000, -512, 3, -90000);
        int late = Rig.behind(bay, s, Rig.LATE, 0);
        int gate = Rig.behind(bay, s, Rig.GATE, 0);
        int ints = Rig.source(bay, Rig.INTS, 1, Integer.MAX_VALUE, 5, Integer.MIN_VALUE);
        int mix = Rig.behind(bay, ints, Rig.MIX, 0);
        int mean = Rig.behind(bay, ints, Rig.MEAN, 0);
        int shorts = Rig.source(bay, Rig.SHORTS, 2, 99999, 1);
        int delay = Rig.behind(bay, shorts, Rig.DELAY, 0);
        int filter = Rig.behind(bay, s, Rig.FILTER, 0);
        Rig.source(bay, Rig.FLOATS, 3, 1, 2, 3);
        bay.cord(ints, mix, 1);
        Rig.knobs(bay, late, 60, 5, 3);
        Rig.knobs(bay, gate, 100, -100, 0);
        bay.knob(mean, 0, -9);
        Rig.knobs(bay, filter, 9, -7, 0);
        bay.knob(delay, 0, 2);
        return bay;
    }

    // "A block with a FINDING is not DONE: rows, PLACES, KEPT, OLD, UP, what DELAYS were fed, SATURATIONS are as before it"
    private static void failedAtEachModule() {
        for (int source = 0; source <= 9; source += 3) {
            for (int before = 0; before <= 2; before++) {
                CordBay bay = allKinds();
                CordBay plain = allKinds();
                for (int i = 0; i < before; i++) {
                    DUE.done("ahead of it", bay, 2);
                    DUE.done("ahead of it", plain, 2);
                }
                bay.knob(source, 0, -1);
                DUE.fails("table away", bay, 3, 2, source, -1);
                DUE.fails("table away, again", bay, 1, 2, source, -1);
                bay.knob(source, 0, source / 3);
                DUE.is("failed at " + source + " leaves nothing", Look.atModules(bay).equals(Look.atModules(plain)), true);
                for (int i = 0; i < 3; i++) {
                    DUE.done("after it", bay, 2);
                    DUE.done("after it", plain, 2);
                }
                DUE.is("failed at " + source + " goes on", Look.atAll(bay).equals(Look.atAll(plain)), true);
            }
        }
    }

    // "THE TRACE of a block, done or not": with no module, one that fails at once, and 24 of them
    private static void traceOfBlocks() {
        CordBay bay = new CordBay();
        DUE.done("no modules", bay, 1);
        DUE.is("no modules: trace(0)", bay.trace(0), 0);
        bay.module(Rig.SHAPE, 0);
        DUE.fails("one module", bay, 1, 1, 0, -1);
        DUE.is("one module: trace(0)", bay.trace(0), 1);
        DUE.is("one module: trace(1)", bay.trace(1), -1);
        DUE.is("one module: trace(2)", bay.trace(2), 0);
        CordBay full = new CordBay();
        for (int m = 0; m < 24; m++) {
            full.module(m < 12 ? Rig.MIX : Rig.DELAY, 0);
        }
        DUE.done("24 modules", full, 1);
        for (int i = 0; i < 24; i++) {
            int m = i < 12 ? 12 + i : i - 12;
            DUE.is("24 modules: trace(" + i + ")", full.trace(i), m + 1);
            DUE.is("24 modules: trace(" + (47 - i) + ")", full.trace(47 - i), -1 - m);
        }
        DUE.is("24 modules: trace(-1)", full.trace(-1), 0);
        DUE.is("24 modules: trace(48)", full.trace(48), 0);
    }
}
