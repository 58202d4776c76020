/** Promises 1 to 7 and 17: a new object, modules, cords, knobs, tables and the order. */
public final class BuildTest {
    private static final Due DUE = new Due("BuildTest");

    public static void main(String[] args) {
        newObject();
        modules();
        cordsAndFrom();
        loops();
        shortestLoop();
        loopOfAll();
        cordToModule0();
        order();
        knobs();
        tables();
        DUE.end();
    }

    private static void newObject() {
        CordBay bay = new CordBay();
        for (int what = -1; what <= 5; what++) {
            DUE.is("new: count(" + what + ")", bay.count(what), what >= 0 && what <= 4 ? 0 : -1);
        }
        DUE.is("new: count(10)", bay.count(10), -1);
        DUE.is("new: count(40)", bay.count(40), -1);
        DUE.is("new: order(0)", bay.order(0), -1);
        DUE.is("new: trace(0)", bay.trace(0), 0);
        DUE.is("new: finding(0)", bay.finding(0), -1);
        DUE.is("new: row(0, 0)", bay.row(0, 0), -2);
        DUE.bits("new: sample(0, 0)", bay.sample(0, 0), 0);
        DUE.is("new: isNone(0, 0)", bay.isNone(0, 0), false);
        DUE.is("new: take(0)", bay.take(0), -1);
        DUE.is("new: equal(1, 1)", bay.equal(1, 1), -1);
        DUE.is("new: back(1)", bay.back(1), -1);
        DUE.is("new: from(0, 0)", bay.from(0, 0), -2);
        for (int p = 0; p < 8; p++) {
            DUE.is("new: recall(" + p + ")", bay.recall(p), -2);
            DUE.is("new: write(" + p + ", 0, 1)", bay.write(p, 0, 1), -2);
        }
        DUE.done("new, no modules", bay, 16);
        DUE.is("no modules: trace(0)", bay.trace(0), 0);
        DUE.is("no modules: count(2)", bay.count(2), 1);
    }

    private static void modules() {
        CordBay bay = new CordBay();
        int[][] bad = {{-1, 0}, {11, 0}, {0, -1}, {0, 5}, {Integer.MIN_VALUE, 0}, {0, Integer.MAX_VALUE}};
        for (int[] pair : bad) {
            DUE.is("module(" + pair[0] + ", " + pair[1] + ")", bay.module(pair[0], pair[1]), -1);
        }
        for (int m = 0; m < 24; m++) {
            DUE.is("module " + m, bay.module(m % 11, m % 5), m);
            DUE.is("its kind", bay.count(40 + m), m % 11);
            DUE.is("count(0)", bay.count(0), m + 1);
            DUE.is("gives none", bay.row(m, 0), -1);
            for (int k = 0; k < 3; k++) {
                DUE.is("its knob", bay.knob(m, k, 0), 0);
            }
        }
        DUE.is("a 25th module", bay.module(0, 0), -2);
        DUE.is("a 25th module of no kind", bay.module(11, 0), -1);
        DUE.is("count(0) of a full bay", bay.count(0), 24);
        DUE.is("count(63)", bay.count(63), 23 % 11);
        DUE.is("count(64)", bay.count(64), -1);
    }

    private static void cordsAndFrom() {
        CordBay bay = new CordBay();
        for (int kind = 0; kind <= 10; kind++) {
            bay.module(kind, 0);
            int ins = kind == Rig.MIX ? 3 : 2;
            for (int in = -1; in <= 3; in++) {
                DUE.is("from of a new module", bay.from(kind, in), in >= 0 && in < ins ? -1 : -2);
            }
            DUE.is("cord to in -1", bay.cord(-1, kind, -1), -1);
            DUE.is("cord to the in past the last", bay.cord(-1, kind, ins), -1);
        }
        DUE.is("from(11, 0)", bay.from(11, 0), -2);
        DUE.is("from(-1, 0)", bay.from(-1, 0), -2);
        DUE.is("cord(0, 5, 2)", bay.cord(0, 5, 2), 1);
        DUE.is("from(5, 2)", bay.from(5, 2), 0);
        DUE.is("count(1)", bay.count(1), 1);
        DUE.is("cord instead of one", bay.cord(1, 5, 2), 1);
        DUE.is("from(5, 2) then", bay.from(5, 2), 1);
        DUE.is("count(1) then", bay.count(1), 1);
        DUE.is("cord(11, 5, 2)", bay.cord(11, 5, 2), -1);
        DUE.is("cord(-2, 5, 2)", bay.cord(-2, 5, 2), -1);
        DUE.is("cord(0, 11, 0)", bay.cord(0, 11, 0), -1);
        DUE.is("cord(0, -1, 0)", bay.cord(0, -1, 0), -1);
        DUE.is("from(5, 2) after wrong ones", bay.from(5, 2), 1);
        DUE.is("cord(-1, 5, 2)", bay.cord(-1, 5, 2), 1);
        DUE.is("from(5, 2) nowhere", bay.from(5, 2), -1);
        DUE.is("count(1) nowhere", bay.count(1), 0);
        DUE.is("cord(-1, 5, 2) again", bay.cord(-1, 5, 2), 1);
    }

    private static void loops() {
        CordBay bay = new CordBay();
        for (int m = 0; m < 4; m++) {
            bay.module(Rig.MIX, 0);
        }
        int delay = bay.module(Rig.DELAY, 0);
        DUE.is("a module to itself", bay.cord(0, 0, 2), -11);
        DUE.is("0 to 1", bay.cord(0, 1, 0), 1);
        DUE.is("1 to 0", bay.cord(1, 0, 0), -12);
        DUE.is("refused: from(0, 0)", bay.from(0, 0), -1);
        DUE.is("a wrong in ahead of a loop", bay.cord(1, 0, 3), -1);
        DUE.is("1 to the delay", bay.cord(1, delay, 1), 1);
        DUE.is("the delay to 0", bay.cord(delay, 0, 0), 1);
        DUE.is("the delay to itself", bay.cord(delay, delay, 0), 1);
        DUE.is("1 to 2", bay.cord(1, 2, 0), 1);
        DUE.is("2 to 3", bay.cord(2, 3, 0), 1);
        DUE.is("3 to 0, in 0 has a cord", bay.cord(3, 0, 0), -14);
        DUE.is("refused: from(0, 0) is the delay", bay.from(0, 0), delay);
        DUE.is("2 to 1 in the in that comes from 0", bay.cord(2, 1, 0), -12);
        DUE.is("refused: from(1, 0)", bay.from(1, 0), 0);
        DUE.is("1 loses its cord from 0", bay.cord(-1, 1, 0), 1);
        DUE.is("3 to 0 now", bay.cord(3, 0, 1), 1);
        DUE.is("0 to 1 now", bay.cord(0, 1, 0), -14);
        // 0 -> delay -> 0 and 1 -> delay -> 0: a way through a DELAY closes no loop.
        DUE.is("0 to 1 by another in", bay.cord(0, 1, 2), -14);
        CordBay through = new CordBay();
        through.module(Rig.SHAPE, 0);
        through.module(Rig.DELAY, 0);
        through.module(Rig.SHAPE, 0);
        DUE.is("0 to the delay", through.cord(0, 1, 0), 1);
        DUE.is("the delay to 2", through.cord(1, 2, 0), 1);
        DUE.is("2 to 0 closes a loop with a delay", through.cord(2, 0, 0), 1);
    }

    private static void shortestLoop() {
        CordBay bay = new CordBay();
        for (int m = 0; m < 5; m++) {
            bay.module(Rig.MIX, 0);
        }
        bay.cord(0, 1, 0);
        bay.cord(1, 2, 0);
        bay.cord(2, 3, 0);
        bay.cord(3, 4, 0);
        DUE.is("the long way", bay.cord(4, 0, 0), -15);
        bay.cord(1, 4, 1);
        DUE.is("a shorter way", bay.cord(4, 0, 0), -13);
        bay.cord(0, 4, 2);
        DUE.is("the shortest way", bay.cord(4, 0, 0), -12);
        bay.cord(-1, 4, 2);
        DUE.is("the shorter way again", bay.cord(4, 0, 2), -13);
        // The shorter way is numbered against the order of the modules.
        CordBay down = new CordBay();
        for (int m = 0; m < 5; m++) {
            down.module(Rig.SOURCE, 0);
        }
        down.cord(4, 3, 1);
        down.cord(3, 2, 1);
        down.cord(2, 1, 1);
        down.cord(1, 0, 1);
        DUE.is("downwards", down.cord(0, 4, 1), -15);
        down.cord(3, 0, 0);
        DUE.is("downwards, shorter", down.cord(0, 4, 1), -13);
    }

    private static void loopOfAll() {
        CordBay bay = new CordBay();
        for (int m = 0; m < 24; m++) {
            bay.module(Rig.GATE, 0);
            if (m > 0) {
                DUE.is("chain", bay.cord(m - 1, m, m % 2), 1);
            }
        }
        DUE.is("a loop of 24", bay.cord(23, 0, 0), -34);
        DUE.is("count(1)", bay.count(1), 23);
        for (int i = 0; i < 24; i++) {
            DUE.is("order of the chain", bay.order(i), i);
        }
        DUE.is("order(24)", bay.order(24), -1);
    }

    private static void cordToModule0() {
        CordBay bay = new CordBay();
        bay.module(Rig.DELAY, 0);
        bay.module(Rig.MIX, 0);
        DUE.is("cord(1, 0, 0)", bay.cord(1, 0, 0), 1);
        DUE.is("count(1) of module 0", bay.count(1), 1);
        orderIs(bay, "module 0 is a delay", 0, 1);
        orderIs(bay, "asked again", 0, 1);
    }

    private static void order() {
        CordBay bay = new CordBay();
        for (int m = 0; m < 7; m++) {
            bay.module(m == 2 || m == 5 ? Rig.DELAY : Rig.MIX, 0);
        }
        orderIs(bay, "no cords", 2, 5, 0, 1, 3, 4, 6);
        bay.cord(6, 0, 2);
        orderIs(bay, "0 waits for 6", 2, 5, 1, 3, 4, 6, 0);
        bay.cord(3, 1, 1);
        bay.cord(5, 6, 0);
        orderIs(bay, "1 waits for 3", 2, 5, 3, 1, 4, 6, 0);
        bay.cord(0, 5, 0);
        bay.cord(5, 2, 1);
        orderIs(bay, "delays don't wait", 2, 5, 3, 1, 4, 6, 0);
        bay.cord(1, 4, 1);
        bay.cord(0, 3, 0);
        orderIs(bay, "3 waits for 0", 2, 5, 6, 0, 3, 1, 4);
        bay.cord(-1, 0, 2);
        orderIs(bay, "0 waits no more", 2, 5, 0, 3, 1, 4, 6);
        DUE.is("order(-1)", bay.order(-1), -1);
        DUE.is("order(7)", bay.order(7), -1);
        DUE.is("order(2147483647)", bay.order(Integer.MAX_VALUE), -1);
        bay.module(Rig.DELAY, 0);
        orderIs(bay, "a new delay", 2, 5, 7, 0, 3, 1, 4, 6);
    }

    private static void orderIs(CordBay bay, String what, int... want) {
        for (int i = 0; i < want.length; i++) {
            DUE.is(what + ": order(" + i + ")", bay.order(i), want[i]);
        }
        DUE.is(what + ": order past the last", bay.order(want.length), -1);
    }

    private static void knobs() {
        CordBay bay = new CordBay();
        bay.module(1, 0);
        bay.module(2, 0);
        DUE.is("knob(0, 0, 1000)", bay.knob(0, 0, 1000), 0);
        DUE.is("knob(0, 0, -1000)", bay.knob(0, 0, -1000), 1000);
        DUE.is("knob(0, 2, 5)", bay.knob(0, 2, 5), 0);
        DUE.is("knob(0, 0, 1001)", bay.knob(0, 0, 1001), -2000);
        DUE.is("knob(0, 0, -1001)", bay.knob(0, 0, -1001), -2000);
        DUE.is("knob(0, -1, 0)", bay.knob(0, -1, 0), -2000);
        DUE.is("knob(0, 3, 0)", bay.knob(0, 3, 0), -2000);
        DUE.is("knob(2, 0, 0)", bay.knob(2, 0, 0), -2000);
        DUE.is("knob(-1, 0, 0)", bay.knob(-1, 0, 0), -2000);
        DUE.is("knob(0, 0, 0)", bay.knob(0, 0, 0), -1000);
        DUE.is("knob(0, 1, 0)", bay.knob(0, 1, 0), 0);
        DUE.is("knob(0, 2, 0)", bay.knob(0, 2, 0), 5);
        DUE.is("knob(1, 0, 0)", bay.knob(1, 0, 0), 0);
    }

    private static void tables() {
        CordBay bay = new CordBay();
        DUE.is("table(-1, 1)", bay.table(-1, 1), -1);
        DUE.is("table(8, 1)", bay.table(8, 1), -1);
        DUE.is("table(0, -2)", bay.table(0, -2), -1);
        DUE.is("table(0, 17)", bay.table(0, 17), -1);
        DUE.is("still missing", bay.write(0, 0, 1), -2);
        DUE.is("table(7, 16)", bay.table(7, 16), 1);
        DUE.is("write(7, 15, 9)", bay.write(7, 15, 9), 1);
        DUE.is("write(7, 16, 9)", bay.write(7, 16, 9), -3);
        DUE.is("write(7, -1, 9)", bay.write(7, -1, 9), -3);
        DUE.is("write(-1, 0, 9)", bay.write(-1, 0, 9), -1);
        DUE.is("write(8, 0, 9)", bay.write(8, 0, 9), -1);
        DUE.is("write(6, 0, 9)", bay.write(6, 0, 9), -2);
        DUE.is("table(6, 0)", bay.table(6, 0), 1);
        DUE.is("write(6, 0, 9) of a table of 0", bay.write(6, 0, 9), -3);
        int m = bay.module(Rig.SOURCE, Rig.INTS);
        Rig.knobs(bay, m, 7, 15, 0);
        DUE.done("what was written", bay, 2);
        DUE.row("what was written", bay, m, Rig.INTS, 0, 9);
        DUE.is("back(1)", bay.back(1), 0);
        DUE.is("a new table 7", bay.table(7, 16), 1);
        DUE.done("a new table is all 0", bay, 2);
        DUE.row("a new table is all 0", bay, m, Rig.INTS, 0, 0);
        DUE.is("table(7, -1)", bay.table(7, -1), 1);
        DUE.is("missing again", bay.write(7, 0, 9), -2);
        bay.table(7, 3);
        bay.write(7, 0, 7);
        bay.write(7, 2, 8);
        bay.table(7, -1);
        bay.table(7, 3);
        bay.knob(m, 1, 2);
        bay.back(1);
        DUE.done("missing and new", bay, 2);
        DUE.row("missing and new", bay, m, Rig.INTS, 0, 0);
    }
}
