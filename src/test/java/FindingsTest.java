/** Promises 8, 18 and 19: blocks that fail, what they leave, the trace and the finding. */
public final class FindingsTest {
    private static final Due DUE = new Due("FindingsTest");

    public static void main(String[] args) {
        wrongLengths();
        sourceFindings();
        everyKindThatNeedsIn0();
        wrongKinds();
        switchFindings();
        mixFindings();
        meanFindings();
        shortRows();
        firstModuleCounts();
        nothingIsLeft();
        trace();
        DUE.end();
    }

    private static void wrongLengths() {
        CordBay bay = new CordBay();
        bay.module(Rig.SHAPE, 0);
        for (int n : new int[] {0, 17, -1, Integer.MAX_VALUE, Integer.MIN_VALUE}) {
            DUE.is("block(" + n + ")", bay.block(n), -1);
        }
        DUE.is("no block yet: trace(0)", bay.trace(0), 0);
        DUE.fails("a finding", bay, 16, 1, 0, -1);
        DUE.is("block(17)", bay.block(17), -1);
        DUE.is("the latest block is that with the finding", bay.finding(0), 1);
        DUE.is("its trace", bay.trace(1), -1);
        DUE.is("finding(3)", bay.finding(3), -1);
        DUE.is("finding(-1)", bay.finding(-1), -1);
    }

    private static void sourceFindings() {
        CordBay bay = new CordBay();
        int m = bay.module(Rig.SOURCE, Rig.INTS);
        DUE.fails("a missing table", bay, 2, 2, m, -1);
        bay.knob(m, 0, -1);
        DUE.fails("table -1", bay, 2, 2, m, -1);
        bay.knob(m, 0, 8);
        DUE.fails("table 8", bay, 2, 2, m, -1);
        bay.knob(m, 0, 7);
        bay.table(7, 0);
        DUE.fails("a table of 0", bay, 2, 5, m, 0);
        Rig.table(bay, 7, 1, 2, 3, 4);
        bay.knob(m, 1, 3);
        DUE.done("to place 3", bay, 1);
        bay.table(7, 3);
        DUE.fails("no such place", bay, 2, 3, m, 0);
        bay.table(7, 0);
        DUE.fails("5 ahead of 3", bay, 2, 5, m, 0);
        bay.table(7, 4);
        DUE.done("the place is still 3", bay, 1);
        bay.table(7, 3);
        DUE.done("the place is 2", bay, 1);
    }

    private static void everyKindThatNeedsIn0() {
        int[] kinds = {Rig.SHAPE, Rig.FILTER, Rig.SLOW, Rig.LATE, Rig.GATE, Rig.TURN, Rig.SWITCH, Rig.MEAN};
        for (int kind : kinds) {
            CordBay bay = new CordBay();
            int m = bay.module(kind, Rig.INTS);
            int none = bay.module(Rig.DELAY, 0);
            bay.cord(none, m, 1);
            DUE.fails("in 0 of kind " + kind + " nowhere", bay, 3, 1, m, -1);
            bay.cord(none, m, 0);
            DUE.fails("in 0 of kind " + kind + " gives none", bay, 3, 2, m, -1);
            DUE.is("nothing done", bay.count(2), 0);
        }
        for (int kind : new int[] {Rig.MIX, Rig.DELAY}) {
            CordBay bay = new CordBay();
            bay.module(kind, 0);
            DUE.done("kind " + kind + " needs none", bay, 3);
        }
    }

    private static void wrongKinds() {
        int[] kinds = {Rig.SHAPE, Rig.FILTER, Rig.SLOW, Rig.LATE, Rig.GATE, Rig.MEAN, Rig.MIX, Rig.TURN};
        int[] wanted = {4, 4, 4, 4, 4, 2, 2, -1};
        for (int i = 0; i < kinds.length; i++) {
            for (int rowKind = 0; rowKind < 5; rowKind++) {
                CordBay bay = new CordBay();
                int s = Rig.source(bay, rowKind, 0, 1);
                int m = Rig.behind(bay, s, kinds[i], 0);
                bay.knob(m, 0, 1);
                if (wanted[i] == rowKind || wanted[i] == -1) {
                    DUE.done("kind " + kinds[i] + " of row kind " + rowKind, bay, 2);
                } else {
                    DUE.fails("kind " + kinds[i] + " of row kind " + rowKind, bay, 2, 4, m, -1);
                }
            }
        }
    }

    private static void switchFindings() {
        CordBay bay = new CordBay();
        int ints = Rig.source(bay, Rig.INTS, 0, 1);
        int gates = Rig.source(bay, Rig.GATES, 1, 1);
        int none = bay.module(Rig.DELAY, 0);
        int late = Rig.behind(bay, gates, Rig.DELAY, 0);
        int m = bay.module(Rig.SWITCH, 0);
        bay.cord(ints, m, 1);
        DUE.fails("in 0 ahead of in 1", bay, 3, 1, m, -1);
        bay.cord(none, m, 0);
        DUE.fails("in 0 ahead of in 1", bay, 3, 2, m, -1);
        bay.cord(ints, m, 0);
        DUE.fails("in 1 of another kind", bay, 3, 4, m, -1);
        bay.cord(-1, m, 1);
        DUE.fails("in 1 nowhere", bay, 3, 1, m, -1);
        bay.cord(none, m, 1);
        DUE.fails("in 1 gives none", bay, 3, 2, m, -1);
        bay.cord(gates, m, 1);
        DUE.done("all is there", bay, 3);
        bay.cord(late, m, 1);
        DUE.fails("in 1 too short", bay, 16, 3, m, 15);
        DUE.fails("in 1 too short by one", bay, 4, 3, m, 3);
        DUE.done("in 1 just long enough", bay, 3);
        DUE.done("in 1 longer", bay, 1);
    }

    private static void mixFindings() {
        CordBay bay = new CordBay();
        int ints = Rig.source(bay, Rig.INTS, 0, 1);
        int shorts = Rig.source(bay, Rig.SHORTS, 0, 1);
        int late = Rig.behind(bay, ints, Rig.DELAY, 0);
        int m = bay.module(Rig.MIX, 0);
        bay.cord(shorts, m, 2);
        DUE.fails("MIX in 2 of another kind", bay, 1, 4, m, -1);
        bay.cord(ints, m, 0);
        DUE.fails("MIX in 2 of another kind", bay, 1, 4, m, -1);
        bay.cord(late, m, 2);
        DUE.done("MIX", bay, 2);
        DUE.fails("MIX in 2 too short", bay, 5, 3, m, 2);
        bay.cord(shorts, m, 1);
        DUE.fails("kinds ahead of samples", bay, 5, 4, m, -1);
    }

    private static void meanFindings() {
        CordBay bay = new CordBay();
        int ints = Rig.source(bay, Rig.INTS, 0, 1);
        int late = Rig.behind(bay, ints, Rig.DELAY, 0);
        bay.block(4);
        int m = Rig.behind(bay, late, Rig.MEAN, 0);
        DUE.fails("MEAN by 0", bay, 4, 5, m, 0);
        bay.knob(m, 0, -3);
        DUE.fails("MEAN by 0 at 3", bay, 4, 5, m, 3);
        DUE.fails("MEAN by 0 at 3, ahead of 4", bay, 9, 5, m, 3);
        bay.knob(m, 0, -4);
        DUE.fails("MEAN wants a sample ahead of its divisor", bay, 9, 3, m, 4);
        bay.knob(m, 0, -15);
        DUE.done("MEAN", bay, 4);
    }

    private static void shortRows() {
        int[] kinds = {Rig.SHAPE, Rig.FILTER, Rig.SLOW, Rig.LATE, Rig.GATE, Rig.TURN};
        for (int kind : kinds) {
            CordBay bay = new CordBay();
            int s = Rig.source(bay, Rig.DOUBLES, 0, 1);
            int late = Rig.behind(bay, s, Rig.DELAY, 0);
            bay.block(5);
            int m = Rig.behind(bay, late, kind, Rig.DOUBLES);
            DUE.fails("kind " + kind + " too short", bay, 6, 3, m, 5);
            DUE.fails("kind " + kind + " too short", bay, 16, 3, m, 5);
            DUE.done("kind " + kind + " shorter block", bay, 2);
            DUE.is("kind " + kind + " is n long", bay.row(m, 1), 2);
        }
    }

    private static void firstModuleCounts() {
        CordBay bay = new CordBay();
        int a = bay.module(Rig.SHAPE, 0);
        int b = bay.module(Rig.SOURCE, 0);
        DUE.fails("the first that acts", bay, 1, 1, a, -1);
        int c = bay.module(Rig.SOURCE, 0);
        bay.cord(c, a, 1);
        DUE.fails("the first in the order", bay, 1, 2, b, -1);
    }

    private static void nothingIsLeft() {
        CordBay bay = new CordBay();
        int s = Rig.source(bay, Rig.DOUBLES, 0, 256, 512, 768);
        int late = Rig.behind(bay, s, Rig.LATE, 0);
        Rig.knobs(bay, late, 8, 4, 4);
        int gate = Rig.behind(bay, s, Rig.GATE, 0);
        Rig.knobs(bay, gate, 24, 8, 0);
        int shorts = Rig.source(bay, Rig.SHORTS, 1, 99999);
        int delay = Rig.behind(bay, shorts, Rig.DELAY, 0);
        int end = bay.module(Rig.TURN, Rig.INTS);
        bay.cord(shorts, end, 0);
        bay.block(2);
        double[] before = {bay.sample(s, 1), bay.sample(late, 0), bay.sample(late, 1), bay.sample(gate, 1)};
        int saturations = bay.count(10 + shorts);
        bay.cord(-1, end, 0);
        for (int n = 1; n <= 3; n++) {
            DUE.fails("fails at the end", bay, n, 1, end, -1);
            DUE.bits("SOURCE's row", bay.sample(s, 1), before[0]);
            DUE.bits("LATE's row", bay.sample(late, 0), before[1]);
            DUE.bits("LATE's row", bay.sample(late, 1), before[2]);
            DUE.bits("GATE's row", bay.sample(gate, 1), before[3]);
            DUE.noRow("DELAY's row", bay, delay);
            DUE.is("rows are as long", bay.row(end, 1), 2);
            DUE.is("saturations", bay.count(10 + shorts), saturations);
            DUE.is("count(2)", bay.count(2), 1);
            DUE.is("count(3)", bay.count(3), 1);
        }
        bay.cord(shorts, end, 0);
        DUE.done("goes on from there", bay, 1);
        DUE.row("PLACE", bay, s, Rig.DOUBLES, 3);
        DUE.row("UP", bay, gate, Rig.GATES, 1);
        DUE.row("fed", bay, delay, Rig.SHORTS, 32767, 32767);
        // z was 0.5, 2.25 and is 4.125; OLD is 1.125.
        DUE.row("KEPT and OLD", bay, late, Rig.DOUBLES, 5.25);
        DUE.is("saturations", bay.count(10 + shorts), saturations + 1);
    }

    private static void trace() {
        CordBay bay = new CordBay();
        int shape = bay.module(Rig.SHAPE, 0);
        int s = Rig.source(bay, Rig.DOUBLES, 0, 1);
        int delay = bay.module(Rig.DELAY, 0);
        int mix = bay.module(Rig.MIX, 0);
        bay.cord(s, shape, 0);
        bay.block(1);
        traceIs(bay, "done", s, shape, delay, mix);
        bay.cord(s, mix, 0);
        bay.block(1);
        DUE.is("the MIX fails", bay.finding(1), mix);
        traceIs(bay, "failed at the end", s, shape, delay, mix);
        bay.knob(s, 0, 5);
        bay.block(1);
        DUE.is("trace(0)", bay.trace(0), delay + 1);
        DUE.is("trace(1)", bay.trace(1), s + 1);
        DUE.is("trace(2)", bay.trace(2), -1 - s);
        DUE.is("trace(3)", bay.trace(3), -1 - delay);
        DUE.is("trace(4)", bay.trace(4), 0);
        bay.module(Rig.DELAY, 0);
        DUE.is("a module made since is not in it", bay.trace(4), 0);
        DUE.is("back(1)", bay.back(1), 0);
        DUE.is("the trace of a block stays", bay.trace(2), -1 - s);
        DUE.is("the finding of a block stays", bay.finding(0), 2);
        DUE.is("trace(-1)", bay.trace(-1), 0);
        DUE.is("trace(2147483647)", bay.trace(Integer.MAX_VALUE), 0);
    }

    private static void traceIs(CordBay bay, String what, int s, int shape, int delay, int mix) {
        int[] opened = {delay, s, shape, mix};
        for (int i = 0; i < 4; i++) {
            DUE.is(what + ": trace(" + i + ")", bay.trace(i), opened[i] + 1);
            DUE.is(what + ": trace(" + (7 - i) + ")", bay.trace(7 - i), -1 - opened[i]);
        }
        DUE.is(what + ": trace(8)", bay.trace(8), 0);
    }
}
