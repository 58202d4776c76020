/** Promise 9: blocks that are taken back. */
public final class BackTest {
    private static final Due DUE = new Due("BackTest");

    public static void main(String[] args) {
        bounds();
        onlyEight();
        notDoneAreNotCounted();
        allThatIsTakenBack();
        shapeKnobs();
        modulesMadeSince();
        whatStays();
        DUE.end();
    }

    private static void bounds() {
        CordBay bay = new CordBay();
        DUE.is("back(1) of none", bay.back(1), -1);
        bay.block(1);
        bay.block(1);
        for (int n : new int[] {0, -1, 3, 9, Integer.MAX_VALUE, Integer.MIN_VALUE}) {
            DUE.is("back(" + n + ")", bay.back(n), -1);
        }
        DUE.is("count(2)", bay.count(2), 2);
        DUE.is("count(3)", bay.count(3), 2);
        DUE.is("back(1)", bay.back(1), 1);
        DUE.is("count(2)", bay.count(2), 1);
        DUE.is("back(2)", bay.back(2), -1);
        DUE.is("back(1)", bay.back(1), 0);
        DUE.is("count(3)", bay.count(3), 0);
        DUE.is("back(1)", bay.back(1), -1);
    }

    private static CordBay counter(int blocks) {
        CordBay bay = new CordBay();
        Rig.source(bay, Rig.INTS, 0, 1, 2, 3, 4, 5, 6, 7, 8, 9, 10, 11, 12, 13, 14, 15, 16);
        for (int i = 0; i < blocks; i++) {
            bay.block(1);
        }
        return bay;
    }

    private static void onlyEight() {
        CordBay bay = counter(12);
        DUE.is("count(2)", bay.count(2), 12);
        DUE.is("count(3)", bay.count(3), 8);
        DUE.is("back(9)", bay.back(9), -1);
        DUE.is("back(8)", bay.back(8), 0);
        DUE.row("the fourth block", bay, 0, Rig.INTS, 4);
        DUE.is("count(2)", bay.count(2), 4);
        DUE.is("back(1)", bay.back(1), -1);
        bay.block(1);
        DUE.row("the fifth again", bay, 0, Rig.INTS, 5);
        DUE.is("count(3)", bay.count(3), 1);
        DUE.is("back(1)", bay.back(1), 0);
        DUE.row("the fourth again", bay, 0, Rig.INTS, 4);

        bay = counter(10);
        DUE.is("back(3)", bay.back(3), 5);
        bay.block(1);
        DUE.is("five were left, and one is new", bay.count(3), 6);
        DUE.is("back(6)", bay.back(6), 0);
        DUE.row("the second", bay, 0, Rig.INTS, 2);

        bay = counter(5);
        DUE.is("back(2)", bay.back(2), 3);
        for (int i = 0; i < 5; i++) {
            bay.block(1);
        }
        DUE.is("eight that were not taken back", bay.back(8), 0);
        DUE.is("none is left", bay.row(0, 0), -1);
        DUE.is("count(2)", bay.count(2), 0);
    }

    private static void notDoneAreNotCounted() {
        CordBay bay = counter(9);
        bay.knob(0, 0, 7);
        for (int i = 0; i < 20; i++) {
            bay.block(1);
        }
        DUE.is("count(3)", bay.count(3), 8);
        DUE.is("count(2)", bay.count(2), 9);
        DUE.is("back(8)", bay.back(8), 0);
        DUE.row("the first", bay, 0, Rig.INTS, 1);
    }

    private static CordBay allKinds() {
        CordBay bay = new CordBay();
        int s = Rig.source(bay, Rig.DOUBLES, 0, 256, 70000, -512, 3, -90000, 1000);
        int late = Rig.behind(bay, s, Rig.LATE, 0);
        int gate = Rig.behind(bay, s, Rig.GATE, 0);
        int turn = Rig.behind(bay, late, Rig.TURN, Rig.SHORTS);
        int delay = Rig.behind(bay, turn, Rig.DELAY, 0);
        int filter = Rig.behind(bay, s, Rig.FILTER, 0);
        int shape = Rig.behind(bay, s, Rig.SHAPE, 0);
        Rig.knobs(bay, late, 60, 5, 3);
        Rig.knobs(bay, gate, 100, -100, 0);
        bay.knob(delay, 0, 3);
        Rig.knobs(bay, filter, 9, -7, 0);
        bay.knob(shape, 0, 33);
        return bay;
    }

    /** Every way back from 12 blocks, and on again, is as if they had never been. */
    private static void allThatIsTakenBack() {
        for (int n = 1; n <= 8; n++) {
            for (int blocks = 12 - n; blocks <= 12; blocks++) {
                CordBay bay = allKindsAfter(12);
                DUE.is("back(" + n + ")", bay.back(n), 8 - n);
                for (int i = 12 - n; i < blocks; i++) {
                    bay.block(1 + i % 3);
                }
                sameRows("back(" + n + ") at " + blocks, bay, allKindsAfter(blocks));
            }
        }
    }

    private static CordBay allKindsAfter(int blocks) {
        CordBay bay = allKinds();
        for (int i = 0; i < blocks; i++) {
            bay.block(1 + i % 3);
        }
        return bay;
    }

    private static void sameRows(String what, CordBay bay, CordBay want) {
        for (int m = 0; m < want.count(0); m++) {
            for (int w = 0; w < 4; w++) {
                DUE.is(what + ": row(" + m + ", " + w + ")", bay.row(m, w), want.row(m, w));
            }
            for (int i = 0; i < 3; i++) {
                DUE.bits(what + ": sample(" + m + ", " + i + ")", bay.sample(m, i), want.sample(m, i));
            }
            DUE.is(what + ": saturations of " + m, bay.count(10 + m), want.count(10 + m));
        }
    }

    private static void shapeKnobs() {
        CordBay bay = new CordBay();
        int s = Rig.source(bay, Rig.DOUBLES, 0, 2048);
        int m = Rig.behind(bay, s, Rig.SHAPE, 0);
        bay.knob(m, 0, 10);
        bay.block(1);
        bay.knob(m, 0, 20);
        bay.block(1);
        bay.knob(m, 0, 40);
        bay.block(1);
        DUE.is("back(1)", bay.back(1), 2);
        bay.block(2);
        DUE.row("from 20 to 40", bay, m, Rig.DOUBLES, 30, 40);
        DUE.is("back(2)", bay.back(2), 1);
        bay.block(2);
        DUE.row("from 10 to 40", bay, m, Rig.DOUBLES, 25, 40);
        DUE.is("back(2)", bay.back(2), 0);
        bay.block(2);
        DUE.row("from 0 to 40", bay, m, Rig.DOUBLES, 20, 40);
    }

    private static void modulesMadeSince() {
        CordBay bay = counter(3);
        int ints = Rig.behind(bay, 0, Rig.DELAY, 0);
        int turn = Rig.behind(bay, 0, Rig.TURN, Rig.DOUBLES);
        int shape = Rig.behind(bay, turn, Rig.FILTER, 0);
        int shorts = Rig.source(bay, Rig.SHORTS, 1, 99999, 1);
        Rig.knobs(bay, shape, 8, 8, 0);
        bay.block(1);
        bay.block(1);
        DUE.is("saturations", bay.count(10 + shorts), 1);
        DUE.is("back(3)", bay.back(3), 2);
        DUE.is("modules stay", bay.count(0), 5);
        DUE.is("cords stay", bay.count(1), 3);
        for (int m : new int[] {ints, turn, shape, shorts}) {
            DUE.noRow("made since", bay, m);
            DUE.is("saturations", bay.count(10 + m), 0);
        }
        DUE.row("the second block", bay, 0, Rig.INTS, 2);
        DUE.done("on from there", bay, 2);
        DUE.noRow("not fed", bay, ints);
        DUE.row("PLACE", bay, shorts, Rig.SHORTS, 32767, 1);
        DUE.row("KNOB and KEPT", bay, shape, Rig.DOUBLES, 0.5 * 3 / 256, 0.5 * 3 / 256 + 4 / 256.0);
    }

    private static void whatStays() {
        CordBay bay = counter(2);
        bay.take(0);
        bay.keep(2);
        bay.knob(0, 2, 5);
        bay.cord(-1, 0, 0);
        bay.write(0, 0, 77);
        int m = Rig.behind(bay, 0, Rig.TURN, Rig.INTS);
        bay.block(1);
        bay.take(0);
        bay.keep(3);
        bay.knob(0, 2, 6);
        DUE.is("back(3)", bay.back(3), 0);
        DUE.is("takes", bay.count(4), 2);
        DUE.is("equal(1, 2)", bay.equal(1, 2), 0);
        DUE.is("knob", bay.knob(0, 2, 6), 6);
        DUE.is("cord", bay.from(m, 0), 0);
        DUE.is("preset 2", bay.recall(2), 1);
        DUE.is("preset 3", bay.recall(3), 2);
        DUE.is("knob of preset 3", bay.knob(0, 2, 0), 5);
        bay.block(1);
        DUE.row("table", bay, 0, Rig.INTS, 77);
        DUE.is("the next take", bay.take(0), 3);
    }
}
