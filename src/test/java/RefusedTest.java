import java.util.ArrayList;
import java.util.List;

/** A refused call leaves the bay as it was: two bays go the same way, and one of them is asked for what is refused. */
public final class RefusedTest {
    private static final Due DUE = new Due("RefusedTest");
    private static final int MOST = Integer.MAX_VALUE;
    private static final int LEAST = Integer.MIN_VALUE;

    private interface Call {
        int on(CordBay bay);
    }

    private record Refused(String name, int due, Call call) { }

    private static final List<Refused> CALLS = new ArrayList<>();

    public static void main(String[] args) {
        refuseModulesAndCords();
        refuseKnobsAndTables();
        refuseBlocks();
        refusePresetsAndTakes();
        questions();
        for (Refused refused : CALLS) {
            for (int blocks : new int[] {0, 1, 9}) {
                oneIsRefused(refused, blocks);
            }
        }
        fullBay();
        DUE.end();
    }

    private static void refuse(String name, int due, Call call) {
        CALLS.add(new Refused(name, due, call));
    }

    private static void refuseModulesAndCords() {
        refuse("module(-1, 0)", -1, b -> b.module(-1, 0));
        refuse("module(11, 0)", -1, b -> b.module(11, 0));
        refuse("module(0, -1)", -1, b -> b.module(0, -1));
        refuse("module(0, 5)", -1, b -> b.module(0, 5));
        refuse("cord(-2, 1, 0)", -1, b -> b.cord(-2, 1, 0));
        refuse("cord(7, 1, 0)", -1, b -> b.cord(7, 1, 0));
        refuse("cord(0, 7, 0)", -1, b -> b.cord(0, 7, 0));
        refuse("cord(-1, -1, 0)", -1, b -> b.cord(-1, -1, 0));
        refuse("cord(-1, 1, 2)", -1, b -> b.cord(-1, 1, 2));
        refuse("cord(-1, 1, -1)", -1, b -> b.cord(-1, 1, -1));
        refuse("cord(1, 1, 0)", -11, b -> b.cord(1, 1, 0));
        refuse("cord(1, 0, 0)", -12, b -> b.cord(1, 0, 0));
        refuse("cord(3, 0, 1)", -13, b -> b.cord(3, 0, 1));
        refuse("from(7, 0)", -2, b -> b.from(7, 0));
    }

    private static void refuseKnobsAndTables() {
        refuse("knob(7, 0, 5)", -2000, b -> b.knob(7, 0, 5));
        refuse("knob(1, 3, 5)", -2000, b -> b.knob(1, 3, 5));
        refuse("knob(1, -1, 5)", -2000, b -> b.knob(1, -1, 5));
        refuse("knob(1, 0, 1001)", -2000, b -> b.knob(1, 0, 1001));
        refuse("knob(1, 1, -1001)", -2000, b -> b.knob(1, 1, -1001));
        refuse("table(0, 17)", -1, b -> b.table(0, 17));
        refuse("table(0, -2)", -1, b -> b.table(0, -2));
        refuse("table(8, 1)", -1, b -> b.table(8, 1));
        refuse("table(-1, -1)", -1, b -> b.table(-1, -1));
        refuse("write(8, 0, 5)", -1, b -> b.write(8, 0, 5));
        refuse("write(-1, 0, 5)", -1, b -> b.write(-1, 0, 5));
        refuse("write(5, 0, 5)", -2, b -> b.write(5, 0, 5));
        refuse("write(0, 4, 5)", -3, b -> b.write(0, 4, 5));
        refuse("write(0, -1, 5)", -3, b -> b.write(0, -1, 5));
    }

    private static void refuseBlocks() {
        refuse("block(0)", -1, b -> b.block(0));
        refuse("block(17)", -1, b -> b.block(17));
        refuse("block(least)", -1, b -> b.block(LEAST));
        refuse("block(most)", -1, b -> b.block(MOST));
        refuse("back(0)", -1, b -> b.back(0));
        refuse("back(9)", -1, b -> b.back(9));
        refuse("back(-1)", -1, b -> b.back(-1));
        refuse("back(one too many)", -1, b -> b.back(b.count(3) + 1));
    }

    private static void refusePresetsAndTakes() {
        refuse("keep(8)", -1, b -> b.keep(8));
        refuse("keep(-1)", -1, b -> b.keep(-1));
        refuse("recall(8)", -1, b -> b.recall(8));
        refuse("recall(-1)", -1, b -> b.recall(-1));
        refuse("recall(7)", -2, b -> b.recall(7));
        refuse("take(7)", -1, b -> b.take(7));
        refuse("take(-1)", -1, b -> b.take(-1));
        refuse("take(6)", -2, b -> b.take(6));
    }

    // Questions change nothing either, whatever they are asked.
    private static void questions() {
        refuse("equal(0, 1)", -1, b -> b.equal(0, 1));
        refuse("row(7, 0)", -2, b -> b.row(7, 0));
        refuse("sample(7, 0)", 0, b -> (int) b.sample(7, 0));
        refuse("isNone(7, 0)", 0, b -> b.isNone(7, 0) ? 1 : 0);
        refuse("order(7)", -1, b -> b.order(7));
        refuse("trace(-1)", 0, b -> b.trace(-1));
        refuse("finding(3)", -1, b -> b.finding(3));
        refuse("count(5)", -1, b -> b.count(5));
    }

    /** Seven modules; 0 leads to 1, 1 to 3, and module 6 gives none. */
    private static CordBay bay(int blocks) {
        CordBay bay = new CordBay();
        int s = Rig.source(bay, Rig.DOUBLES, 0, 256, 90000, LEAST, -512);
        int late = Rig.behind(bay, s, Rig.LATE, 0);
        int gate = Rig.behind(bay, s, Rig.GATE, 0);
        int turn = Rig.behind(bay, late, Rig.TURN, Rig.SHORTS);
        int delay = Rig.behind(bay, turn, Rig.DELAY, 0);
        int shape = Rig.behind(bay, s, Rig.SHAPE, 0);
        bay.module(Rig.MIX, 0);
        Rig.knobs(bay, late, 60, 5, 3);
        Rig.knobs(bay, gate, 100, -100, 0);
        bay.knob(delay, 0, 2);
        bay.knob(shape, 0, 33);
        bay.keep(2);
        bay.knob(shape, 0, -44);
        for (int i = 0; i < blocks; i++) {
            bay.block(3);
        }
        bay.take(s);
        return bay;
    }

    private static void oneIsRefused(Refused refused, int blocks) {
        String what = refused.name() + " after " + blocks;
        CordBay asked = bay(blocks);
        CordBay plain = bay(blocks);
        DUE.is(what, refused.call().on(asked), refused.due());
        DUE.is(what + ": nothing is seen of it", Look.atAll(asked).equals(Look.atAll(plain)), true);
        for (CordBay bay : new CordBay[] {asked, plain}) {
            DUE.done(what + ": on", bay, 3);
        }
        DUE.is(what + ": nothing comes of it", Look.atAll(asked).equals(Look.atAll(plain)), true);
        DUE.is(what + ": back", asked.back(1), plain.back(1));
        DUE.is(what + ": takes", asked.take(0), plain.take(0));
        DUE.is(what + ": presets", asked.recall(2), 7);
        for (int k = 0; k < 21; k++) {
            plain.recall(2);
            DUE.is(what + ": knob " + k, asked.knob(k / 3, k % 3, 0), plain.knob(k / 3, k % 3, 0));
        }
        for (int p = 0; p < 8; p++) {
            DUE.is(what + ": preset " + p, asked.recall(p), p == 2 ? 7 : -2);
        }
    }

    // "there are 24", "this bay has 40 takes": refused by a full bay, which stays as it was
    private static void fullBay() {
        CordBay[] bays = new CordBay[2];
        for (int i = 0; i < 2; i++) {
            bays[i] = bay(1);
            for (int m = 7; m < 24; m++) {
                bays[i].module(Rig.DELAY, 0);
            }
            for (int t = 2; t <= 40; t++) {
                bays[i].take(0);
            }
        }
        DUE.is("a 25th module", bays[0].module(Rig.SHAPE, 0), -2);
        DUE.is("a 41st take", bays[0].take(1), -3);
        DUE.is("full, nothing is seen of it", Look.atModules(bays[0]).equals(Look.atModules(bays[1])), true);
        for (CordBay bay : bays) {
            DUE.done("full, on", bay, 3);
            DUE.is("the takes are as they were", bay.equal(1, 40), 1);
            DUE.is("no 41st take", bay.equal(1, 41), -1);
        }
        DUE.is("full, nothing comes of it", Look.atModules(bays[0]).equals(Look.atModules(bays[1])), true);
    }
}
