/** 'Terms', what each kind keeps and where its knobs end: at each boundary, one below it and one above it. */
public final class EdgeKindsTest {
    private static final Due DUE = new Due("EdgeKindsTest");
    private static final int NO_NUMBER = Integer.MIN_VALUE;

    public static void main(String[] args) {
        rowKindCountsForSourceAndTurn();
        placeGoesRound();
        placeIsKept();
        rampOverLengths();
        rampAheadOfTheFirstBlock();
        rampOfOneMadeSince();
        rampAfterBlocksNotDone();
        rampAfterBlocksTakenBack();
        rampAfterRecall();
        keptIs0AtFirst();
        noNumberLeavesKeptAndOld();
        mixOfNoneSuch();
        delayHeldTo1And4();
        delayWithNotSoManyBlocks();
        delayFedNone();
        delayIsFedByBlocksDoneAlone();
        delayIsFedWhenAllHaveActed();
        module0KeepsAsOthersDo();
        gateAtItsKnobs();
        gateKnobsAtTheirEnds();
        gateInBetweenAndNoNumber();
        turnCutsOffTowards0();
        turnIntoGatesAbove0();
        switchAtTheLastSample();
        switchGivesShortAndLongRows();
        meanCutsOffTowards0();
        meanAtKnobEnds();
        DUE.end();
    }

    // "a ROW KIND that was told (it counts for SOURCE and TURN alone)"
    private static void rowKindCountsForSourceAndTurn() {
        int[] gives = {-1, Rig.DOUBLES, Rig.DOUBLES, Rig.DOUBLES, Rig.DOUBLES, Rig.INTS, Rig.SHORTS, Rig.GATES, -1,
            Rig.SHORTS, Rig.INTS};
        for (int rowKind = Rig.GATES; rowKind <= Rig.DOUBLES; rowKind++) {
            CordBay bay = new CordBay();
            int doubles = Rig.source(bay, Rig.DOUBLES, 0, 1);
            int ints = Rig.source(bay, Rig.INTS, 0, 1);
            int shorts = Rig.source(bay, Rig.SHORTS, 0, 1);
            int gates = Rig.source(bay, Rig.GATES, 0, 1);
            int[] in0 = {-1, doubles, doubles, doubles, doubles, ints, shorts, doubles, shorts, shorts, ints};
            int[] ms = new int[11];
            for (int kind = 0; kind <= 10; kind++) {
                ms[kind] = Rig.behind(bay, in0[kind], kind, rowKind);
            }
            bay.cord(gates, ms[Rig.SWITCH], 1);
            bay.knob(ms[Rig.MEAN], 0, 1);
            DUE.done("ROW KIND", bay, 1);
            DUE.done("ROW KIND", bay, 1);
            for (int kind = 0; kind <= 10; kind++) {
                int want = gives[kind] < 0 ? rowKind : gives[kind];
                DUE.is("kind " + kind + " told " + rowKind, bay.row(ms[kind], 0), want);
            }
        }
    }

    // "the PLACE becomes what the PLACE and KNOB 1 together leave when divided by the table's length (0 or above)"
    private static void placeGoesRound() {
        for (int length = 1; length <= 16; length++) {
            int[] steps = {-1000, -length - 1, -length, -length + 1, -1, 0, 1, length - 1, length, length + 1, 1000};
            for (int step : steps) {
                CordBay bay = new CordBay();
                int[] values = new int[length];
                for (int i = 0; i < length; i++) {
                    values[i] = 100 + i;
                }
                int m = Rig.source(bay, Rig.INTS, 0, values);
                bay.knob(m, 1, step);
                DUE.done("SOURCE round", bay, 16);
                double[] want = new double[16];
                for (int k = 0; k < 16; k++) {
                    want[k] = 100 + Math.floorMod((long) k * step, (long) length);
                }
                DUE.row("length " + length + ", step " + step, bay, m, Rig.INTS, want);
            }
        }
    }

    // "keeps a PLACE, 0 at first": it goes on from block to block, and from table to table
    private static void placeIsKept() {
        CordBay bay = new CordBay();
        int m = Rig.source(bay, Rig.INTS, 0, 10, 11, 12);
        Rig.table(bay, 1, 20, 21, 22, 23);
        DUE.done("from 0", bay, 2);
        DUE.row("from 0", bay, m, Rig.INTS, 10, 11);
        bay.knob(m, 0, 1);
        DUE.done("place 2 of another table", bay, 1);
        DUE.row("place 2 of another table", bay, m, Rig.INTS, 22);
        DUE.done("its last place, and round", bay, 2);
        DUE.row("its last place, and round", bay, m, Rig.INTS, 23, 20);
        bay.table(1, -1);
        Rig.table(bay, 1, 30, 31);
        DUE.done("a new table leaves the place", bay, 1);
        DUE.row("a new table leaves the place", bay, m, Rig.INTS, 31);
    }

    /** A SHAPE behind a source of 8, so that the sample is the gain's KNOB. */
    private static CordBay ramp() {
        CordBay bay = new CordBay();
        int s = Rig.source(bay, Rig.DOUBLES, 0, 2048);
        Rig.behind(bay, s, Rig.SHAPE, 0);
        return bay;
    }

    private static void rampIs(String what, CordBay bay, int o, int knob, int n) {
        double[] want = new double[n];
        for (int k = 0; k < n; k++) {
            double whole = (knob - o) * (k + 1);
            double gain = (o + whole / n) / 8;
            want[k] = gain * 8;
        }
        DUE.done(what, bay, n);
        DUE.row(what + " from " + o + " to " + knob, bay, 1, Rig.DOUBLES, want);
    }

    // "at sample k (from 0) of n it is (o + (KNOB 0 - o) * (k + 1) / n) / 8"
    private static void rampOverLengths() {
        int[] knobs = {1000, -1000, 999, -999, 1, 0, -1, 1000, 1000};
        for (int n : new int[] {1, 2, 3, 7, 15, 16}) {
            CordBay bay = ramp();
            int o = 0;
            for (int knob : knobs) {
                bay.knob(1, 0, knob);
                rampIs("n is " + n, bay, o, knob, n);
                o = knob;
            }
        }
    }

    // "(0 ahead of the first one ...)"
    private static void rampAheadOfTheFirstBlock() {
        CordBay bay = ramp();
        bay.knob(1, 0, 500);
        bay.knob(1, 0, 16);
        rampIs("the first block", bay, 0, 16, 4);
        rampIs("the second block", bay, 16, 16, 4);
    }

    // "(... or when it was made since)"
    private static void rampOfOneMadeSince() {
        CordBay bay = new CordBay();
        Rig.source(bay, Rig.DOUBLES, 0, 2048);
        bay.block(1);
        Rig.behind(bay, 0, Rig.SHAPE, 0);
        bay.knob(1, 0, -8);
        rampIs("made since", bay, 0, -8, 4);
        rampIs("made ahead", bay, -8, -8, 4);
    }

    // "what KNOB 0 was when the latest block was done": a block with a FINDING was not
    private static void rampAfterBlocksNotDone() {
        CordBay bay = ramp();
        bay.knob(1, 0, 10);
        rampIs("done", bay, 0, 10, 2);
        bay.knob(1, 0, 100);
        bay.knob(0, 0, 5);
        DUE.fails("not done", bay, 2, 2, 0, -1);
        DUE.is("refused", bay.block(17), -1);
        bay.knob(0, 0, 0);
        bay.knob(1, 0, 20);
        rampIs("after one not done", bay, 10, 20, 2);
    }

    // "... that was not taken back"
    private static void rampAfterBlocksTakenBack() {
        CordBay bay = ramp();
        int[] knobs = {10, 20, 30};
        for (int knob : knobs) {
            bay.knob(1, 0, knob);
            bay.block(1);
        }
        DUE.is("back(1)", bay.back(1), 2);
        rampIs("one taken back", bay, 20, 30, 2);
        DUE.is("back(2)", bay.back(2), 1);
        rampIs("two taken back", bay, 10, 30, 2);
        DUE.is("back(2)", bay.back(2), 0);
        rampIs("all taken back", bay, 0, 30, 2);
    }

    // A preset sets the KNOB, not what it was in the latest block.
    private static void rampAfterRecall() {
        CordBay bay = ramp();
        bay.knob(1, 0, 40);
        bay.keep(0);
        bay.knob(1, 0, 8);
        rampIs("ahead of it", bay, 0, 8, 1);
        bay.recall(0);
        rampIs("recalled", bay, 8, 40, 4);
    }

    // "keeps KEPT, 0 at first", "keeps OLD, 0 at first, too"
    private static void keptIs0AtFirst() {
        for (int kind = Rig.FILTER; kind <= Rig.LATE; kind++) {
            CordBay bay = new CordBay();
            int s = Rig.source(bay, Rig.DOUBLES, 0, 256);
            int m = Rig.behind(bay, s, kind, 0);
            Rig.knobs(bay, m, 8, 1000, 1000);
            DUE.done("first sample", bay, 1);
            DUE.row("first sample of kind " + kind, bay, m, Rig.DOUBLES, 1);
            DUE.done("second sample", bay, 1);
            DUE.row("second sample of kind " + kind, bay, m, Rig.DOUBLES, kind == Rig.LATE ? 1 + 125 + 125 : 1 + 125);
        }
    }

    // "NO NUMBER gives NO NUMBER and leaves KEPT and OLD as they are"
    private static void noNumberLeavesKeptAndOld() {
        int[][] tables = {{NO_NUMBER, 256, 512}, {256, NO_NUMBER, 512}, {256, 512, NO_NUMBER}, {NO_NUMBER, NO_NUMBER, NO_NUMBER}};
        // By KEPT * 4/8 and OLD = z * 2/8, after a block of one 0 that brings the gain to 1.
        double[][] filter = {{Rig.NONE, 1, 2.5}, {1, Rig.NONE, 2.5}, {1, 2.5, Rig.NONE}, {Rig.NONE, Rig.NONE, Rig.NONE}};
        double[][] late = {{Rig.NONE, 1, 2.75}, {1, Rig.NONE, 2.75}, {1, 2.75, Rig.NONE}, {Rig.NONE, Rig.NONE, Rig.NONE}};
        double[] nextFilter = {1.25, 1.25, 1.25, 0};
        double[] nextLate = {1.875, 1.875, 1.875, 0};
        for (int i = 0; i < tables.length; i++) {
            CordBay bay = new CordBay();
            int s = Rig.source(bay, Rig.DOUBLES, 0, 0);
            int[] ms = {Rig.behind(bay, s, Rig.SHAPE, 0), Rig.behind(bay, s, Rig.FILTER, 0),
                Rig.behind(bay, s, Rig.SLOW, 0), Rig.behind(bay, s, Rig.LATE, 0)};
            for (int m : ms) {
                Rig.knobs(bay, m, 8, 4, 2);
            }
            bay.block(1);
            Rig.table(bay, 0, tables[i]);
            DUE.done("NO NUMBER", bay, 3);
            for (int k = 0; k < 3; k++) {
                DUE.is("SHAPE: isNone " + k, bay.isNone(ms[0], k), tables[i][k] == NO_NUMBER);
            }
            DUE.row("FILTER, case " + i, bay, ms[1], Rig.DOUBLES, filter[i]);
            DUE.row("SLOW, case " + i, bay, ms[2], Rig.DOUBLES, filter[i]);
            DUE.row("LATE, case " + i, bay, ms[3], Rig.DOUBLES, late[i]);
            Rig.table(bay, 0, 0);
            DUE.done("the next", bay, 1);
            DUE.row("FILTER next, case " + i, bay, ms[1], Rig.DOUBLES, nextFilter[i]);
            DUE.row("LATE next, case " + i, bay, ms[3], Rig.DOUBLES, nextLate[i]);
        }
    }

    // "those count that lead somewhere and whose cord's module gives a row ...; none, if there are none such"
    private static void mixOfNoneSuch() {
        for (int cords = 0; cords < 8; cords++) {
            for (int rows = 0; rows < 8; rows++) {
                CordBay bay = new CordBay();
                int s = Rig.source(bay, Rig.INTS, 0, 7);
                int none = bay.module(Rig.DELAY, 0);
                int m = bay.module(Rig.MIX, 0);
                for (int in = 0; in < 3; in++) {
                    if ((cords >> in & 1) == 1) {
                        bay.cord((rows >> in & 1) == 1 ? s : none, m, in);
                    }
                }
                DUE.done("MIX", bay, 1);
                int counted = Integer.bitCount(cords & rows);
                if (counted == 0) {
                    DUE.noRow("MIX of cords " + cords + ", rows " + rows, bay, m);
                } else {
                    DUE.row("MIX of cords " + cords + ", rows " + rows, bay, m, Rig.INTS, 7 * counted);
                }
            }
        }
    }

    /** Block after block of one sample: the first gives 1, the next 2, and so on. */
    private static CordBay counting(int... knobs) {
        CordBay bay = new CordBay();
        int s = Rig.source(bay, Rig.INTS, 0, 1, 2, 3, 4, 5, 6, 7, 8, 9, 10, 11, 12, 13, 14, 15, 16);
        for (int knob : knobs) {
            bay.knob(Rig.behind(bay, s, Rig.DELAY, 0), 0, knob);
        }
        return bay;
    }

    // "what it was fed KNOB 0 blocks ago (held to 1 .. 4)"
    private static void delayHeldTo1And4() {
        int[] knobs = {-1000, -1, 0, 1, 2, 3, 4, 5, 1000};
        int[] ago = {1, 1, 1, 1, 2, 3, 4, 4, 4};
        CordBay bay = counting(knobs);
        for (int block = 1; block <= 7; block++) {
            DUE.done("DELAY", bay, 1);
        }
        for (int i = 0; i < knobs.length; i++) {
            DUE.row("KNOB 0 is " + knobs[i], bay, 1 + i, Rig.INTS, 7 - ago[i]);
            DUE.is("no saturation", bay.count(11 + i), 0);
            DUE.is("the KNOB itself stays", bay.knob(1 + i, 0, 0), knobs[i]);
        }
    }

    // "or none, if ... there were not so many blocks"
    private static void delayWithNotSoManyBlocks() {
        CordBay bay = counting(1, 2, 3, 4, 5);
        int[] ago = {1, 2, 3, 4, 4};
        for (int block = 1; block <= 6; block++) {
            DUE.done("DELAY", bay, 1);
            for (int i = 0; i < ago.length; i++) {
                if (block <= ago[i]) {
                    DUE.noRow("block " + block + " of KNOB 0 " + (i + 1), bay, 1 + i);
                } else {
                    DUE.row("block " + block + " of KNOB 0 " + (i + 1), bay, 1 + i, Rig.INTS, block - ago[i]);
                }
            }
        }
    }

    // "or none, if it was fed none": "none, if in 0 leads NOWHERE, or it gives none"
    private static void delayFedNone() {
        CordBay bay = counting(1, 2);
        int nothing = bay.module(Rig.MIX, 0);
        int[] from = {0, -1, nothing, 0};
        for (int o : from) {
            bay.cord(o, 1, 0);
            bay.cord(o, 2, 0);
            DUE.done("feeding", bay, 1);
        }
        DUE.noRow("fed by what gives none", bay, 1);
        DUE.noRow("fed NOWHERE", bay, 2);
        DUE.done("on", bay, 1);
        DUE.row("fed a row again", bay, 1, Rig.INTS, 4);
        DUE.noRow("two blocks ago none", bay, 2);
        DUE.done("on", bay, 1);
        DUE.row("two blocks ago a row again", bay, 2, Rig.INTS, 4);
    }

    // Blocks with a FINDING, refused ones and those taken back feed nothing.
    private static void delayIsFedByBlocksDoneAlone() {
        CordBay bay = counting(1, 2);
        DUE.done("one", bay, 1);
        DUE.done("two", bay, 1);
        bay.knob(0, 0, 9);
        DUE.fails("not done", bay, 1, 2, 0, -1);
        DUE.is("refused", bay.block(0), -1);
        bay.knob(0, 0, 0);
        DUE.done("three", bay, 1);
        DUE.row("one block ago", bay, 1, Rig.INTS, 2);
        DUE.row("two blocks ago", bay, 2, Rig.INTS, 1);
        DUE.is("back(2)", bay.back(2), 1);
        DUE.done("two again", bay, 1);
        DUE.row("one block ago", bay, 1, Rig.INTS, 1);
        DUE.noRow("two blocks ago", bay, 2);
    }

    // "When all have acted, each DELAY is FED": with what is given now, by a DELAY too
    private static void delayIsFedWhenAllHaveActed() {
        CordBay bay = counting(1, 1);
        bay.cord(1, 2, 0);
        int self = bay.module(Rig.DELAY, 0);
        bay.cord(self, self, 0);
        for (int block = 1; block <= 4; block++) {
            DUE.done("DELAYS", bay, 1);
            DUE.noRow("a DELAY of itself", bay, self);
        }
        DUE.row("a DELAY", bay, 1, Rig.INTS, 3);
        DUE.row("a DELAY of a DELAY", bay, 2, Rig.INTS, 2);
    }

    // The least number: module 0 is fed, and its KNOB 0 is remembered.
    private static void module0KeepsAsOthersDo() {
        CordBay bay = new CordBay();
        int delay = bay.module(Rig.DELAY, 0);
        bay.cord(Rig.source(bay, Rig.INTS, 0, 4, 5), delay, 0);
        DUE.done("module 0 is a DELAY", bay, 1);
        DUE.noRow("module 0 is a DELAY", bay, delay);
        DUE.done("module 0 is a DELAY", bay, 1);
        DUE.row("module 0 is a DELAY", bay, delay, Rig.INTS, 4);
        CordBay other = new CordBay();
        int shape = other.module(Rig.SHAPE, 0);
        other.cord(Rig.source(other, Rig.DOUBLES, 0, 2048), shape, 0);
        other.knob(shape, 0, 6);
        DUE.done("module 0 is a SHAPE", other, 2);
        DUE.row("module 0 is a SHAPE", other, shape, Rig.DOUBLES, 3, 6);
        DUE.done("module 0 is a SHAPE", other, 2);
        DUE.row("module 0 is a SHAPE", other, shape, Rig.DOUBLES, 6, 6);
    }

    /** What a GATE that stands at up makes of v / 256. */
    private static void gateOf(int knob0, int knob1, int up, int v, int want) {
        CordBay bay = new CordBay();
        int s = Rig.source(bay, Rig.DOUBLES, 0, 0);
        int m = Rig.behind(bay, s, Rig.GATE, Rig.DOUBLES);
        // x is 0: at or above KNOB 0 only when it should come up.
        Rig.knobs(bay, m, up == 1 ? 0 : 1, -1, 0);
        bay.block(1);
        Rig.knobs(bay, m, knob0, knob1, 0);
        Rig.table(bay, 0, v);
        String what = "GATE " + knob0 + ", " + knob1 + " at " + up + " of " + v;
        DUE.done(what, bay, 1);
        DUE.row(what, bay, m, Rig.GATES, want);
    }

    // "UP becomes 1, if x is KNOB 0 / 8 or above; else 0, if it is KNOB 1 / 8 or below; else it stays"
    private static void gateAtItsKnobs() {
        for (int up = 0; up <= 1; up++) {
            gateOf(8, -8, up, 255, up);
            gateOf(8, -8, up, 256, 1);
            gateOf(8, -8, up, 257, 1);
            gateOf(8, -8, up, -255, up);
            gateOf(8, -8, up, -256, 0);
            gateOf(8, -8, up, -257, 0);
            gateOf(1, 1, up, 31, 0);
            gateOf(1, 1, up, 32, 1);
            gateOf(1, 1, up, 33, 1);
            // KNOB 0 below KNOB 1: KNOB 0 is looked at first.
            gateOf(-8, 8, up, -257, 0);
            gateOf(-8, 8, up, -256, 1);
            gateOf(-8, 8, up, 256, 1);
        }
    }

    private static void gateKnobsAtTheirEnds() {
        for (int up = 0; up <= 1; up++) {
            gateOf(1000, -1000, up, 31999, up);
            gateOf(1000, -1000, up, 32000, 1);
            gateOf(1000, -1000, up, 32001, 1);
            gateOf(1000, -1000, up, -31999, up);
            gateOf(1000, -1000, up, -32000, 0);
            gateOf(1000, -1000, up, -32001, 0);
            gateOf(0, -1, up, 0, 1);
            gateOf(1, 0, up, 0, 0);
            gateOf(0, -1, up, -1, up);
            gateOf(1, 0, up, 1, up);
        }
    }

    // "Keeps UP, 0 at first"; "else it stays (for NO NUMBER, too)"
    private static void gateInBetweenAndNoNumber() {
        CordBay bay = new CordBay();
        int s = Rig.source(bay, Rig.DOUBLES, 0, 0, NO_NUMBER, 256, NO_NUMBER, 0, -256, 0, NO_NUMBER);
        int m = Rig.behind(bay, s, Rig.GATE, 0);
        Rig.knobs(bay, m, 8, -8, 0);
        DUE.done("GATE", bay, 8);
        DUE.row("GATE", bay, m, Rig.GATES, 0, 0, 1, 1, 1, 0, 0, 0);
        DUE.is("no NO NUMBER in GATES", bay.row(m, 3), 0);
        DUE.done("up at the end", bay, 3);
        DUE.done("UP from block to block", bay, 2);
        DUE.row("UP from block to block", bay, m, Rig.GATES, 1, 1);
        // NO NUMBER is neither above nor below any KNOB.
        Rig.table(bay, 0, NO_NUMBER, NO_NUMBER, NO_NUMBER, NO_NUMBER, NO_NUMBER, NO_NUMBER);
        Rig.knobs(bay, m, -1000, 1000, 0);
        DUE.is("back(3)", bay.back(3), 0);
        DUE.done("NO NUMBER at 0", bay, 1);
        DUE.row("NO NUMBER at 0", bay, m, Rig.GATES, 0);
        Rig.table(bay, 0, 256, NO_NUMBER);
        Rig.knobs(bay, m, 8, 8, 0);
        DUE.is("back(1)", bay.back(1), 0);
        DUE.done("up", bay, 1);
        Rig.knobs(bay, m, 1000, 1000, 0);
        DUE.done("NO NUMBER at 1", bay, 1);
        DUE.row("NO NUMBER at 1", bay, m, Rig.GATES, 1);
    }

    // "into SHORTS, INTS x * 256, cut off towards 0"
    private static void turnCutsOffTowards0() {
        int[] eighths = {-17, -16, -15, -9, -8, -7, -1, 0, 1, 7, 8, 9, 15, 16, 17};
        double[] want = {-2, -2, -1, -1, -1, 0, 0, 0, 0, 0, 1, 1, 1, 2, 2};
        CordBay bay = new CordBay();
        int s = Rig.source(bay, Rig.DOUBLES, 0, 0);
        int shape = Rig.behind(bay, s, Rig.SHAPE, 0);
        int floats = Rig.behind(bay, shape, Rig.TURN, Rig.FLOATS);
        bay.knob(shape, 0, 1);
        int[] ms = {Rig.behind(bay, shape, Rig.TURN, Rig.SHORTS), Rig.behind(bay, shape, Rig.TURN, Rig.INTS),
            Rig.behind(bay, floats, Rig.TURN, Rig.SHORTS), Rig.behind(bay, floats, Rig.TURN, Rig.INTS)};
        bay.block(1);
        Rig.table(bay, 0, eighths);
        DUE.done("cut off", bay, eighths.length);
        for (int i = 0; i < 4; i++) {
            DUE.row("cut off, case " + i, bay, ms[i], i % 2 == 0 ? Rig.SHORTS : Rig.INTS, want);
        }
    }

    // "into GATES 1 if x is above 0, else 0 (for NO NUMBER, too)": zeros of either sign, and the least above 0
    private static void turnIntoGatesAbove0() {
        CordBay bay = new CordBay();
        int s = Rig.source(bay, Rig.DOUBLES, 0, 256, -256);
        int shape = Rig.behind(bay, s, Rig.SHAPE, 0);
        int m = Rig.behind(bay, shape, Rig.TURN, Rig.GATES);
        DUE.done("zeros", bay, 2);
        DUE.row("zeros", bay, shape, Rig.DOUBLES, 0, -0.0);
        DUE.row("zeros", bay, m, Rig.GATES, 0, 0);
        int filter = Rig.behind(bay, s, Rig.FILTER, 0);
        bay.cord(filter, m, 0);
        Rig.knobs(bay, filter, 8, 1, 0);
        bay.block(1);
        Rig.table(bay, 0, 0, 0);
        for (int i = 0; i < 21; i++) {
            DUE.done("ever less", bay, 16);
            DUE.is("ever less: above 0", bay.sample(filter, 15) > 0, true);
            DUE.bits("ever less", bay.sample(m, 15), 1);
        }
    }

    // "If the last sample (n - 1) of in 1 is 1, it gives the row of in 0 as it is, else none"
    private static void switchAtTheLastSample() {
        CordBay bay = new CordBay();
        int s = Rig.source(bay, Rig.INTS, 0, 5);
        int gates = Rig.source(bay, Rig.GATES, 1, 0, 1, 0, 1);
        int delay = Rig.behind(bay, gates, Rig.DELAY, 0);
        int m = Rig.behind(bay, s, Rig.SWITCH, 0);
        bay.cord(gates, m, 1);
        for (int n = 1; n <= 4; n++) {
            DUE.done("SWITCH", bay, n);
            DUE.is("open after " + n, bay.row(m, 0), n % 2 == 0 ? Rig.INTS : -1);
            bay.back(1);
        }
        // The row of in 1 may be longer: sample n - 1 counts, not its own last one.
        DUE.done("a row of 4", bay, 4);
        bay.cord(delay, m, 1);
        for (int n = 1; n <= 4; n++) {
            DUE.done("SWITCH by a longer row", bay, n);
            DUE.is("open after " + n + " of 4", bay.row(m, 0), n % 2 == 0 ? Rig.INTS : -1);
            bay.back(1);
        }
        DUE.fails("a row one too short", bay, 5, 3, m, 4);
    }

    // In 0's samples are not wanted: "the row of in 0 as it is" may be shorter or longer than n.
    private static void switchGivesShortAndLongRows() {
        for (int n = 1; n <= 5; n += 2) {
            CordBay bay = new CordBay();
            int s = Rig.source(bay, Rig.SHORTS, 0, 7, 8, 9);
            int gates = Rig.source(bay, Rig.GATES, 1, 1);
            int delay = Rig.behind(bay, s, Rig.DELAY, 0);
            DUE.done("a row of 3", bay, 3);
            int m = Rig.behind(bay, delay, Rig.SWITCH, Rig.DOUBLES);
            bay.cord(gates, m, 1);
            DUE.done("SWITCH of 3 in a block of " + n, bay, n);
            DUE.row("SWITCH of 3 in a block of " + n, bay, m, Rig.SHORTS, 7, 8, 9);
        }
    }

    private static void meanIs(int[] values, int knob0, double... want) {
        CordBay bay = new CordBay();
        int s = Rig.source(bay, Rig.INTS, 0, values);
        int m = Rig.behind(bay, s, Rig.MEAN, 0);
        bay.knob(m, 0, knob0);
        DUE.done("MEAN by " + knob0, bay, values.length);
        DUE.row("MEAN by " + knob0, bay, m, Rig.INTS, want);
        DUE.is("MEAN by " + knob0 + ": saturations", bay.count(10 + m), 0);
    }

    // "exactly, cut off towards 0"
    private static void meanCutsOffTowards0() {
        meanIs(new int[] {1}, 2, 0);
        meanIs(new int[] {2}, 2, 1);
        meanIs(new int[] {3}, 2, 1);
        meanIs(new int[] {-1}, 2, 0);
        meanIs(new int[] {-2}, 2, -1);
        meanIs(new int[] {-3}, 2, -1);
        meanIs(new int[] {1}, -2, 0);
        meanIs(new int[] {3}, -2, -1);
        meanIs(new int[] {-3}, -2, 1);
        meanIs(new int[] {5, 6, 9, -41}, 1, 5, 5, 6, -5);
        // The sum is not held: 3 * (2^31 - 1) by 1, 2, 3.
        int most = Integer.MAX_VALUE;
        meanIs(new int[] {most, most, most}, 1, most, most, most);
        int least = Integer.MIN_VALUE;
        meanIs(new int[] {least, least, least}, 1, least, least, least);
    }

    private static void meanAtKnobEnds() {
        meanIs(new int[] {999, 2}, 1000, 0, 1);
        meanIs(new int[] {1000, 1}, 1000, 1, 1);
        meanIs(new int[] {1001, -1}, 1000, 1, 0);
        meanIs(new int[] {999, 0}, -1000, 0, -1);
        meanIs(new int[] {1000, -2}, -1000, -1, 0);
        meanIs(new int[] {Integer.MAX_VALUE}, 1, Integer.MAX_VALUE);
        meanIs(new int[] {Integer.MAX_VALUE}, -1, -Integer.MAX_VALUE);
        meanIs(new int[] {Integer.MIN_VALUE}, 1, Integer.MIN_VALUE);
    }
}
