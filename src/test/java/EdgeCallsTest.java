/** Promises 1 to 20: every negative answer, at its boundary, one below it and one above it, and which is told first. */
public final class EdgeCallsTest {
    private static final Due DUE = new Due("EdgeCallsTest");
    private static final int MOST = Integer.MAX_VALUE;
    private static final int LEAST = Integer.MIN_VALUE;

    public static void main(String[] args) {
        promise1();
        promise2Kinds();
        promise2Most();
        promise3Numbers();
        promise3Instead();
        promise3LoopLengths();
        promise3ShortestLoop();
        promise3Delays();
        promise3WrongAheadOfLoop();
        promise4();
        promise5();
        promise6();
        promise7();
        promise8();
        promise9Bounds();
        promise9OnlyTheLatest8();
        promise9NotDone();
        promise9MadeSince();
        promise10();
        promise11();
        promise12Order();
        promise12Numbers();
        promise13Numbers();
        promise13Kinds();
        promise13Lengths();
        promise13Bits();
        promise13NoNumber();
        promise14();
        promise14Silent();
        promise14NoNumbers();
        promise15And16();
        promise17();
        promise18();
        promise19();
        promise20();
        promise20Full();
        DUE.end();
    }

    // "No modules, no tables, no blocks, no takes."
    private static void promise1() {
        CordBay bay = new CordBay();
        for (int what = 0; what <= 4; what++) {
            DUE.is("new: count(" + what + ")", bay.count(what), 0);
        }
        for (int t = 0; t < 8; t++) {
            DUE.is("new: write(" + t + ", 0, 0)", bay.write(t, 0, 0), -2);
            DUE.is("new: recall(" + t + ")", bay.recall(t), -2);
        }
        DUE.is("new: from(0, 0)", bay.from(0, 0), -2);
        DUE.is("new: knob(0, 0, 0)", bay.knob(0, 0, 0), -2000);
        DUE.is("new: cord(-1, 0, 0)", bay.cord(-1, 0, 0), -1);
        DUE.is("new: take(0)", bay.take(0), -1);
        DUE.is("new: equal(1, 1)", bay.equal(1, 1), -1);
        DUE.is("new: back(1)", bay.back(1), -1);
        DUE.is("new: row(0, 0)", bay.row(0, 0), -2);
        DUE.is("new: order(0)", bay.order(0), -1);
        DUE.is("new: trace(0)", bay.trace(0), 0);
        DUE.is("new: finding(0)", bay.finding(0), -1);
        DUE.is("new: module(0, 0)", bay.module(0, 0), 0);
        // A second object has nothing of the first.
        DUE.is("another: count(0)", new CordBay().count(0), 0);
    }

    // "-1: kind is not 0 .. 10, rowKind not 0 .. 4"
    private static void promise2Kinds() {
        CordBay bay = new CordBay();
        for (int kind : new int[] {LEAST, -1, 11, MOST}) {
            DUE.is("module(" + kind + ", 0)", bay.module(kind, 0), -1);
        }
        for (int rowKind : new int[] {LEAST, -1, 5, MOST}) {
            for (int kind = 0; kind <= 10; kind++) {
                DUE.is("module(" + kind + ", " + rowKind + ")", bay.module(kind, rowKind), -1);
            }
        }
        DUE.is("both wrong", bay.module(11, 5), -1);
        DUE.is("none was made", bay.count(0), 0);
        int made = 0;
        for (int kind : new int[] {0, 1, 9, 10}) {
            for (int rowKind : new int[] {0, 1, 3, 4}) {
                DUE.is("module(" + kind + ", " + rowKind + ")", bay.module(kind, rowKind), made);
                DUE.is("its kind", bay.count(40 + made), kind);
                made++;
            }
        }
    }

    // "-2: there are 24"
    private static void promise2Most() {
        CordBay bay = new CordBay();
        for (int m = 0; m < 24; m++) {
            DUE.is("module " + m, bay.module(0, 0), m);
        }
        DUE.is("a 25th", bay.module(0, 0), -2);
        DUE.is("a 25th again", bay.module(10, 4), -2);
        DUE.is("a 25th of no kind", bay.module(11, 0), -1);
        DUE.is("a 25th of no row kind", bay.module(0, 5), -1);
        DUE.is("count(0)", bay.count(0), 24);
        DUE.is("knob of the 24th", bay.knob(23, 0, 1), 0);
        DUE.is("knob of a 25th", bay.knob(24, 0, 1), -2000);
    }

    // "-1: there is no module m, or no such in of it, or o is neither -1 nor a module"
    private static void promise3Numbers() {
        CordBay bay = new CordBay();
        for (int kind = 0; kind <= 10; kind++) {
            bay.module(kind, 0);
        }
        int delay = bay.module(Rig.DELAY, 0);
        for (int m : new int[] {LEAST, -1, 12, MOST}) {
            DUE.is("cord(-1, " + m + ", 0)", bay.cord(-1, m, 0), -1);
            DUE.is("cord(0, " + m + ", 0)", bay.cord(0, m, 0), -1);
        }
        for (int o : new int[] {LEAST, -2, 12, MOST}) {
            DUE.is("cord(" + o + ", 11, 0)", bay.cord(o, delay, 0), -1);
        }
        for (int m = 0; m <= 11; m++) {
            int ins = m == Rig.MIX ? 3 : 2;
            for (int in : new int[] {LEAST, -1, ins, MOST}) {
                DUE.is("cord(-1, " + m + ", " + in + ")", bay.cord(-1, m, in), -1);
                DUE.is("cord(11, " + m + ", " + in + ")", bay.cord(delay, m, in), -1);
            }
            for (int in = 0; in < ins; in++) {
                DUE.is("cord(-1, " + m + ", " + in + ")", bay.cord(-1, m, in), 1);
                DUE.is("cord(11, " + m + ", " + in + ")", bay.cord(delay, m, in), 1);
            }
        }
        DUE.is("count(1)", bay.count(1), 25);
        DUE.is("cord(0, 11, 0)", bay.cord(0, delay, 0), 1);
        DUE.is("cord(10, 11, 1)", bay.cord(10, delay, 1), 1);
    }

    // "has a cord from module o (instead of one that it had); o is -1: it leads NOWHERE"
    private static void promise3Instead() {
        CordBay bay = new CordBay();
        bay.module(0, 0);
        bay.module(0, 0);
        bay.module(Rig.MIX, 0);
        DUE.is("a cord", bay.cord(0, 2, 1), 1);
        DUE.is("the same once more", bay.cord(0, 2, 1), 1);
        DUE.is("one cord", bay.count(1), 1);
        DUE.is("another instead", bay.cord(1, 2, 1), 1);
        DUE.is("one cord still", bay.count(1), 1);
        DUE.is("from(2, 1)", bay.from(2, 1), 1);
        DUE.is("from(2, 0)", bay.from(2, 0), -1);
        DUE.is("from(2, 2)", bay.from(2, 2), -1);
        DUE.is("NOWHERE", bay.cord(-1, 2, 1), 1);
        DUE.is("NOWHERE once more", bay.cord(-1, 2, 1), 1);
        DUE.is("no cord", bay.count(1), 0);
    }

    // "-10 less how many modules the shortest LOOP without a DELAY has": of 1 to 24 modules
    private static void promise3LoopLengths() {
        for (int length = 1; length <= 24; length++) {
            CordBay bay = new CordBay();
            for (int m = 0; m < length; m++) {
                bay.module(Rig.TURN, 0);
                if (m > 0) {
                    DUE.is("chain", bay.cord(m - 1, m, m % 2), 1);
                }
            }
            DUE.is("a loop of " + length, bay.cord(length - 1, 0, 0), -10 - length);
            DUE.is("by the other in", bay.cord(length - 1, 0, 1), -10 - length);
            DUE.is("refused", bay.from(0, 0), -1);
            DUE.is("count(1)", bay.count(1), length - 1);
            if (length > 1) {
                int middle = length / 2;
                int in = middle % 2;
                DUE.is("out of the chain", bay.cord(-1, middle, in), 1);
                DUE.is("no loop then", bay.cord(length - 1, 0, 0), 1);
                DUE.is("the last cord closes it", bay.cord(middle - 1, middle, in), -10 - length);
                DUE.is("refused", bay.from(middle, in), -1);
            }
        }
    }

    // "the shortest": of several ways, whatever their numbers are
    private static void promise3ShortestLoop() {
        CordBay bay = new CordBay();
        for (int m = 0; m < 8; m++) {
            bay.module(Rig.MIX, 0);
        }
        // From 3 to 0: 3 5 1 7 0, then also 3 2 6 0, then 3 4 0, then 3 0.
        int[][] ways = {{3, 5, 1, 7, 0}, {3, 2, 6, 0}, {3, 4, 0}};
        for (int i = 0; i < 3; i++) {
            for (int j = 1; j < ways[i].length; j++) {
                bay.cord(ways[i][j - 1], ways[i][j], i);
            }
            DUE.is("ways to " + i, bay.cord(0, 3, 0), -10 - ways[i].length);
        }
        bay.cord(3, 0, 1);
        DUE.is("straight", bay.cord(0, 3, 2), -12);
        bay.cord(-1, 0, 1);
        DUE.is("not straight", bay.cord(0, 3, 2), -13);
        bay.cord(-1, 4, 2);
        DUE.is("only the long one", bay.cord(0, 3, 2), -15);
        bay.cord(-1, 7, 0);
        DUE.is("none", bay.cord(0, 3, 2), 1);
        // An in that has its own cord now is freed by the new one: it is no part of the loop.
        CordBay again = new CordBay();
        for (int m = 0; m < 3; m++) {
            again.module(Rig.SHAPE, 0);
        }
        again.cord(0, 1, 0);
        again.cord(1, 2, 0);
        DUE.is("2 behind 0 instead", again.cord(0, 2, 0), 1);
        DUE.is("1 behind 2 instead", again.cord(2, 1, 0), 1);
        DUE.is("2 behind 1 by its in 1", again.cord(1, 2, 1), -12);
        DUE.is("0 behind 1", again.cord(1, 0, 1), -13);
    }

    // "if m is no DELAY"; "(If o is a DELAY, none is.)"; "LOOP without a DELAY"
    private static void promise3Delays() {
        CordBay bay = new CordBay();
        int a = bay.module(Rig.SHAPE, 0);
        int delay = bay.module(Rig.DELAY, 0);
        int b = bay.module(Rig.SHAPE, 0);
        DUE.is("a DELAY behind itself", bay.cord(delay, delay, 0), 1);
        DUE.is("a to the DELAY", bay.cord(a, delay, 1), 1);
        DUE.is("the DELAY to a", bay.cord(delay, a, 0), 1);
        DUE.is("the DELAY to b", bay.cord(delay, b, 0), 1);
        DUE.is("b to a, round by the DELAY alone", bay.cord(b, a, 1), 1);
        DUE.is("a to b without the DELAY", bay.cord(a, b, 1), -12);
        DUE.is("a to b in its in 0", bay.cord(a, b, 0), -12);
        DUE.is("refused: it is the DELAY still", bay.from(b, 0), delay);
        DUE.is("a module that is no DELAY behind itself", bay.cord(b, b, 1), -11);
    }

    // "-1: ...; else": wrong numbers are told ahead of a loop
    private static void promise3WrongAheadOfLoop() {
        CordBay bay = new CordBay();
        bay.module(Rig.SHAPE, 0);
        bay.module(Rig.MIX, 0);
        DUE.is("in 2 of a SHAPE to itself", bay.cord(0, 0, 2), -1);
        DUE.is("in -1 of a SHAPE to itself", bay.cord(0, 0, -1), -1);
        DUE.is("in 2 of a MIX to itself", bay.cord(1, 1, 2), -11);
        DUE.is("in 3 of a MIX to itself", bay.cord(1, 1, 3), -1);
        DUE.is("module 2 to itself", bay.cord(2, 2, 0), -1);
    }

    // "-1 NOWHERE; -2 there is no such module or in"
    private static void promise4() {
        CordBay bay = new CordBay();
        for (int kind = 0; kind <= 10; kind++) {
            bay.module(kind, 0);
        }
        for (int m : new int[] {LEAST, -1, 11, MOST}) {
            DUE.is("from(" + m + ", 0)", bay.from(m, 0), -2);
        }
        for (int m = 0; m <= 10; m++) {
            int ins = m == Rig.MIX ? 3 : 2;
            DUE.is("from(" + m + ", -1)", bay.from(m, -1), -2);
            for (int in = 0; in < ins; in++) {
                DUE.is("from(" + m + ", " + in + ")", bay.from(m, in), -1);
            }
            DUE.is("from(" + m + ", " + ins + ")", bay.from(m, ins), -2);
            DUE.is("from(" + m + ", least)", bay.from(m, LEAST), -2);
            DUE.is("from(" + m + ", most)", bay.from(m, MOST), -2);
        }
        bay.cord(0, 10, 1);
        DUE.is("from module 0", bay.from(10, 1), 0);
        bay.cord(9, 10, 0);
        DUE.is("from module 9", bay.from(10, 0), 9);
    }

    // "-2000: there is no such module, k is not 0 .. 2, v not -1000 .. 1000"
    private static void promise5() {
        CordBay bay = new CordBay();
        bay.module(0, 0);
        bay.module(10, 0);
        for (int m : new int[] {LEAST, -1, 2, MOST}) {
            DUE.is("knob(" + m + ", 0, 1)", bay.knob(m, 0, 1), -2000);
        }
        for (int k : new int[] {LEAST, -1, 3, MOST}) {
            DUE.is("knob(0, " + k + ", 1)", bay.knob(0, k, 1), -2000);
        }
        for (int m = 0; m < 2; m++) {
            for (int k = 0; k < 3; k++) {
                int was = 0;
                for (int v : new int[] {-999, -1000, 999, 1000}) {
                    DUE.is("knob(" + m + ", " + k + ", " + v + ")", bay.knob(m, k, v), was);
                    was = v;
                    for (int wrong : new int[] {-1001, 1001, LEAST, MOST}) {
                        DUE.is("knob(" + m + ", " + k + ", " + wrong + ")", bay.knob(m, k, wrong), -2000);
                    }
                }
            }
        }
        for (int i = 0; i < 6; i++) {
            DUE.is("knob " + i + " is as it was set", bay.knob(i / 3, i % 3, 0), 1000);
        }
    }

    // "-1: t is not 0 .. 7, n not -1 .. 16"
    private static void promise6() {
        CordBay bay = new CordBay();
        for (int t : new int[] {LEAST, -1, 8, MOST}) {
            for (int n : new int[] {-1, 0, 16}) {
                DUE.is("table(" + t + ", " + n + ")", bay.table(t, n), -1);
            }
        }
        for (int t : new int[] {0, 1, 6, 7}) {
            for (int n : new int[] {LEAST, -2, 17, MOST}) {
                DUE.is("table(" + t + ", " + n + ")", bay.table(t, n), -1);
                DUE.is("MISSING still", bay.write(t, 0, 1), -2);
            }
            for (int n : new int[] {0, 1, 2, 15, 16}) {
                DUE.is("table(" + t + ", " + n + ")", bay.table(t, n), 1);
                DUE.is("its last place", bay.write(t, n - 1, 1), n == 0 ? -3 : 1);
                DUE.is("no place past it", bay.write(t, n, 1), -3);
            }
            DUE.is("table(" + t + ", -1)", bay.table(t, -1), 1);
            DUE.is("MISSING", bay.write(t, 0, 1), -2);
            DUE.is("MISSING once more", bay.table(t, -1), 1);
        }
        newTableIsAll0();
        refusedTableStays();
    }

    // "a new one with n places, all 0": whatever it was before
    private static void newTableIsAll0() {
        for (int between = -1; between <= 16; between += 17) {
            CordBay bay = new CordBay();
            int[] values = new int[16];
            for (int i = 0; i < 16; i++) {
                values[i] = i + 1;
            }
            int m = Rig.source(bay, Rig.INTS, 5, values);
            bay.table(5, between);
            bay.table(5, 16);
            DUE.done("a new table", bay, 16);
            DUE.row("a new table", bay, m, Rig.INTS, new double[16]);
        }
    }

    private static void refusedTableStays() {
        CordBay bay = new CordBay();
        int m = Rig.source(bay, Rig.INTS, 5, 3, 4);
        bay.table(5, 17);
        bay.table(5, -2);
        bay.write(5, 2, 9);
        bay.write(5, -1, 9);
        DUE.done("the table is as it was", bay, 3);
        DUE.row("the table is as it was", bay, m, Rig.INTS, 3, 4, 3);
    }

    // "-1: t is not 0 .. 7; -2: it is MISSING; -3: it has no such place"
    private static void promise7() {
        CordBay bay = new CordBay();
        for (int t : new int[] {LEAST, -1, 8, MOST}) {
            for (int i : new int[] {-1, 0, 16}) {
                DUE.is("write(" + t + ", " + i + ", 1)", bay.write(t, i, 1), -1);
            }
        }
        for (int t : new int[] {0, 7}) {
            for (int i : new int[] {LEAST, -1, 0, 16, MOST}) {
                DUE.is("MISSING: write(" + t + ", " + i + ", 1)", bay.write(t, i, 1), -2);
            }
            for (int n : new int[] {1, 2, 15, 16}) {
                bay.table(t, n);
                for (int i : new int[] {LEAST, -1, n, n + 1, MOST}) {
                    DUE.is("of " + n + ": write(" + t + ", " + i + ", 1)", bay.write(t, i, 1), -3);
                }
                DUE.is("of " + n + ": its first place", bay.write(t, 0, LEAST), 1);
                DUE.is("of " + n + ": its last place", bay.write(t, n - 1, MOST), 1);
            }
        }
        int m = bay.module(Rig.SOURCE, Rig.INTS);
        Rig.knobs(bay, m, 7, 15, 0);
        DUE.done("what was written", bay, 3);
        DUE.row("what was written", bay, m, Rig.INTS, LEAST, MOST, 0);
    }

    // "-1, and nothing is done: n is not 1 .. 16"
    private static void promise8() {
        CordBay bay = new CordBay();
        int s = Rig.source(bay, Rig.INTS, 0, 1, 2, 3);
        for (int n : new int[] {LEAST, -1, 0, 17, MOST}) {
            DUE.is("block(" + n + ")", bay.block(n), -1);
            DUE.is("no block: count(2)", bay.count(2), 0);
            DUE.is("no block: trace(0)", bay.trace(0), 0);
            DUE.noRow("no block", bay, s);
        }
        int done = 0;
        for (int n : new int[] {1, 2, 15, 16}) {
            DUE.is("block(" + n + ")", bay.block(n), 0);
            done++;
            DUE.is("count(2)", bay.count(2), done);
            DUE.is("row(0, 1)", bay.row(s, 1), n);
        }
        bay.knob(s, 0, 1);
        DUE.is("a FINDING", bay.block(16), 2);
        for (int n : new int[] {0, 17}) {
            DUE.is("block(" + n + ")", bay.block(n), -1);
            DUE.is("the latest block is still the one with the FINDING", bay.finding(0), 2);
        }
        // Wrong lengths are told ahead of any FINDING.
        DUE.is("a FINDING again", bay.block(1), 2);
    }

    // "-1: n is not 1 .. 8, or not so many can be"
    private static void promise9Bounds() {
        for (int done = 0; done <= 10; done++) {
            int can = Math.min(done, 8);
            for (int n = -1; n <= 11; n++) {
                CordBay bay = counting(done);
                boolean fine = n >= 1 && n <= can;
                String what = done + " done: back(" + n + ")";
                DUE.is(what, bay.back(n), fine ? can - n : -1);
                DUE.is(what + ": count(2)", bay.count(2), fine ? done - n : done);
                DUE.is(what + ": count(3)", bay.count(3), fine ? can - n : can);
                int left = fine ? done - n : done;
                DUE.is(what + ": row(0, 1)", bay.row(0, 1), left == 0 ? -1 : 1);
                DUE.bits(what + ": sample(0, 0)", bay.sample(0, 0), left);
            }
        }
        CordBay bay = counting(3);
        DUE.is("back(least)", bay.back(LEAST), -1);
        DUE.is("back(most)", bay.back(MOST), -1);
    }

    private static CordBay counting(int blocks) {
        CordBay bay = new CordBay();
        Rig.source(bay, Rig.INTS, 0, 1, 2, 3, 4, 5, 6, 7, 8, 9, 10, 11, 12, 13, 14, 15, 16);
        for (int i = 0; i < blocks; i++) {
            bay.block(1);
        }
        return bay;
    }

    // "only the latest 8 blocks that were DONE can": one by one, all at once, and after going on
    private static void promise9OnlyTheLatest8() {
        CordBay bay = counting(9);
        for (int left = 7; left >= 0; left--) {
            DUE.is("one more", bay.back(1), left);
            DUE.bits("one more", bay.sample(0, 0), left + 1);
        }
        DUE.is("a ninth", bay.back(1), -1);
        DUE.is("count(2)", bay.count(2), 1);
        for (int i = 1; i <= 9; i++) {
            DUE.done("on", bay, 1);
            DUE.is("count(3) after " + i, bay.count(3), Math.min(i, 8));
        }
        DUE.is("count(2)", bay.count(2), 10);
        DUE.is("back(9)", bay.back(9), -1);
        DUE.is("back(8)", bay.back(8), 0);
        DUE.bits("the second", bay.sample(0, 0), 2);
        CordBay many = counting(400);
        DUE.is("of 400: count(2)", many.count(2), 400);
        DUE.is("of 400: count(3)", many.count(3), 8);
        DUE.is("of 400: back(8)", many.back(8), 0);
        DUE.bits("of 400: the 392nd", many.sample(0, 0), 8);
    }

    // Blocks with a FINDING and refused ones are none that can be taken back.
    private static void promise9NotDone() {
        CordBay bay = counting(0);
        bay.knob(0, 0, 1);
        DUE.fails("not done", bay, 1, 2, 0, -1);
        DUE.is("back(1)", bay.back(1), -1);
        bay.knob(0, 0, 0);
        DUE.done("done", bay, 1);
        bay.knob(0, 0, 1);
        DUE.fails("not done", bay, 1, 2, 0, -1);
        DUE.is("refused", bay.block(17), -1);
        DUE.is("back(2)", bay.back(2), -1);
        DUE.is("back(1)", bay.back(1), 0);
        DUE.noRow("as at first", bay, 0);
        // They push none of the latest 8 out.
        for (int done = 7; done <= 10; done++) {
            CordBay full = counting(done);
            full.knob(0, 0, 1);
            for (int i = 0; i < 9; i++) {
                DUE.fails("not done", full, 1, 2, 0, -1);
            }
            int can = Math.min(done, 8);
            DUE.is(done + " done, 9 not: count(3)", full.count(3), can);
            DUE.is(done + " done, 9 not: back(" + can + ")", full.back(can), 0);
            DUE.bits(done + " done, 9 not: what is left", full.sample(0, 0), done - can);
        }
    }

    // "modules that were made since are as when they were made"
    private static void promise9MadeSince() {
        for (int n = 1; n <= 3; n++) {
            CordBay bay = counting(2);
            int shorts = Rig.source(bay, Rig.SHORTS, 1, 40000, 7, 9);
            int delay = Rig.behind(bay, shorts, Rig.DELAY, 0);
            DUE.done("with them", bay, 1);
            DUE.is("back(" + n + ")", bay.back(n), 3 - n);
            DUE.is("modules stay", bay.count(0), 3);
            DUE.noRow("made since", bay, shorts);
            DUE.is("made since: saturations", bay.count(10 + shorts), 0);
            DUE.is("made since: its knob stays", bay.knob(shorts, 0, 1), 1);
            DUE.done("again", bay, 1);
            DUE.row("again", bay, shorts, Rig.SHORTS, 32767);
            DUE.noRow("not fed", bay, delay);
        }
    }

    // "-1: p is not 0 .. 7"; "Answers how many modules"
    private static void promise10() {
        CordBay bay = new CordBay();
        for (int made = 0; made <= 24; made++) {
            for (int p : new int[] {LEAST, -1, 8, MOST}) {
                DUE.is("keep(" + p + ")", bay.keep(p), -1);
            }
            DUE.is("keep(0)", bay.keep(0), made);
            DUE.is("keep(7)", bay.keep(7), made);
            bay.module(0, 0);
        }
        DUE.is("recall(1)", bay.recall(1), -2);
        DUE.is("recall(6)", bay.recall(6), -2);
        DUE.is("recall(7)", bay.recall(7), 24);
    }

    // "-1: p is not 0 .. 7; -2: it keeps nothing yet"
    private static void promise11() {
        CordBay bay = new CordBay();
        for (int p : new int[] {LEAST, -1, 8, MOST}) {
            DUE.is("recall(" + p + ")", bay.recall(p), -1);
        }
        for (int m = 0; m < 24; m++) {
            bay.module(0, 0);
            if (m == 22) {
                DUE.is("keep(6) of 23", bay.keep(6), 23);
            }
        }
        for (int p = 0; p < 8; p++) {
            DUE.is("recall(" + p + ")", bay.recall(p), p == 6 ? 23 : -2);
        }
        Rig.knobs(bay, 0, 1000, -1000, 1);
        Rig.knobs(bay, 23, -1000, 2, 1000);
        DUE.is("keep(7)", bay.keep(7), 24);
        Rig.knobs(bay, 0, 5, 5, 5);
        Rig.knobs(bay, 23, 6, 6, 6);
        DUE.is("recall(6), which has no module 23", bay.recall(6), 23);
        DUE.is("knob of module 0", bay.knob(0, 0, 5), 0);
        DUE.is("knob of module 23", bay.knob(23, 0, 6), 6);
        DUE.is("recall(7)", bay.recall(7), 24);
        int[] want = {1000, -1000, 1, -1000, 2, 1000};
        for (int i = 0; i < 6; i++) {
            DUE.is("recalled " + i, bay.knob(i < 3 ? 0 : 23, i % 3, want[i]), want[i]);
        }
        DUE.is("recall(7) once more", bay.recall(7), 24);
        // A preset of no modules was kept, so it is not "nothing yet".
        CordBay none = new CordBay();
        DUE.is("keep(0) of none", none.keep(0), 0);
        DUE.is("recall(0) of none", none.recall(0), 0);
        DUE.is("recall(1)", none.recall(1), -2);
    }

    // "-1: there is no such module; -2: it gives no row; -3: this bay has 40 takes"
    private static void promise12Order() {
        CordBay bay = counting(0);
        int none = bay.module(Rig.MIX, 0);
        for (int m : new int[] {LEAST, -1, 2, MOST}) {
            DUE.is("take(" + m + ")", bay.take(m), -1);
        }
        DUE.is("no row yet", bay.take(0), -2);
        bay.block(1);
        DUE.is("no row", bay.take(none), -2);
        for (int t = 1; t <= 39; t++) {
            bay.take(0);
        }
        DUE.is("39 takes", bay.count(4), 39);
        DUE.is("no row at 39", bay.take(none), -2);
        DUE.is("the 40th", bay.take(0), 40);
        DUE.is("a 41st", bay.take(0), -3);
        DUE.is("a 41st of no row", bay.take(none), -2);
        DUE.is("a 41st of no module", bay.take(2), -1);
        DUE.is("40 takes", bay.count(4), 40);
    }

    // "one more than that of the latest take of this bay (1 for the first; none is given twice)"
    private static void promise12Numbers() {
        CordBay bay = counting(2);
        DUE.is("the first", bay.take(0), 1);
        DUE.is("refused", bay.take(1), -1);
        DUE.is("the second", bay.take(0), 2);
        DUE.is("back(2)", bay.back(2), 0);
        DUE.is("no row", bay.take(0), -2);
        bay.block(1);
        DUE.is("the third", bay.take(0), 3);
        DUE.is("the second is of the second block", bay.equal(1, 2), 1);
        DUE.is("the third is of the first block", bay.equal(2, 3), 0);
        DUE.is("of another bay: the first", counting(1).take(0), 1);
    }

    // "-1 if one of them is none of this bay's"
    private static void promise13Numbers() {
        CordBay bay = counting(1);
        for (int takes = 0; takes <= 40; takes++) {
            if (takes == 0 || takes == 1 || takes == 2 || takes >= 39) {
                for (int t : new int[] {-1, 0, 1, takes, takes + 1}) {
                    boolean there = t >= 1 && t <= takes;
                    DUE.is("of " + takes + ": equal(" + t + ", 1)", bay.equal(t, 1), there ? 1 : -1);
                    DUE.is("of " + takes + ": equal(1, " + t + ")", bay.equal(1, t), there ? 1 : -1);
                    DUE.is("of " + takes + ": equal(" + t + ", " + t + ")", bay.equal(t, t), there ? 1 : -1);
                }
                DUE.is("of " + takes + ": both least", bay.equal(LEAST, LEAST), -1);
                DUE.is("of " + takes + ": most", bay.equal(MOST, 1), -1);
            }
            bay.take(0);
        }
    }

    // "are of one kind"
    private static void promise13Kinds() {
        CordBay bay = new CordBay();
        for (int rowKind = 0; rowKind < 5; rowKind++) {
            Rig.source(bay, rowKind, 0, 0);
        }
        bay.block(2);
        for (int m = 0; m < 5; m++) {
            bay.take(m);
        }
        for (int t = 1; t <= 5; t++) {
            for (int u = 1; u <= 5; u++) {
                DUE.is("kinds: equal(" + t + ", " + u + ")", bay.equal(t, u), t == u ? 1 : 0);
            }
        }
    }

    // "as long as each other": where the shorter one is how the longer one begins
    private static void promise13Lengths() {
        int[] lengths = {1, 2, 15, 16, 1, 16};
        CordBay bay = new CordBay();
        Rig.source(bay, Rig.INTS, 0, 5);
        for (int n : lengths) {
            bay.block(n);
            bay.take(0);
        }
        for (int t = 1; t <= 6; t++) {
            for (int u = 1; u <= 6; u++) {
                DUE.is("lengths: equal(" + t + ", " + u + ")", bay.equal(t, u), lengths[t - 1] == lengths[u - 1] ? 1 : 0);
            }
        }
    }

    // "equal bit for bit": another sample at the first, at the last place; zeros of two signs; the last bit
    private static void promise13Bits() {
        CordBay bay = new CordBay();
        int s = Rig.source(bay, Rig.DOUBLES, 0, 1, 2, 3);
        int[][] rows = {{1, 2, 3}, {2, 2, 3}, {1, 2, 4}, {1, -2, 3}, {1, 2, 3}};
        for (int[] row : rows) {
            Rig.table(bay, 0, row);
            bay.block(3);
            bay.take(s);
        }
        for (int u = 1; u <= 5; u++) {
            DUE.is("samples: equal(1, " + u + ")", bay.equal(1, u), u == 1 || u == 5 ? 1 : 0);
            DUE.is("samples: equal(" + u + ", 1)", bay.equal(u, 1), u == 1 || u == 5 ? 1 : 0);
        }
        zerosOfTwoSigns();
        theLastBit();
    }

    private static void zerosOfTwoSigns() {
        CordBay bay = new CordBay();
        int s = Rig.source(bay, Rig.DOUBLES, 0, 256, -256);
        int shape = Rig.behind(bay, s, Rig.SHAPE, 0);
        int floats = Rig.behind(bay, shape, Rig.TURN, Rig.FLOATS);
        for (int i = 1; i <= 4; i++) {
            DUE.done("zeros", bay, 1);
            DUE.bits("zeros", bay.sample(shape, 0), i % 2 == 1 ? 0.0 : -0.0);
            DUE.bits("zeros", bay.sample(floats, 0), i % 2 == 1 ? 0.0 : -0.0);
            bay.take(shape);
            bay.take(floats);
        }
        for (int t = 1; t <= 8; t++) {
            for (int u = 1; u <= 8; u++) {
                DUE.is("zeros: equal(" + t + ", " + u + ")", bay.equal(t, u), (t - u) % 4 == 0 ? 1 : 0);
            }
        }
    }

    /** 1 and 1 + 2^-52, and 1 once more, as what is added is too little. */
    private static void theLastBit() {
        CordBay bay = new CordBay();
        int s = Rig.source(bay, Rig.DOUBLES, 0, 256, 0);
        int m = Rig.behind(bay, s, Rig.FILTER, 0);
        Rig.knobs(bay, m, 8, 4, 0);
        bay.block(1);
        bay.take(m);
        bay.knob(s, 1, 0);
        for (int left = 51; left > 0; left -= 16) {
            bay.block(Math.min(left, 16));
        }
        Rig.table(bay, 0, 256, 256);
        bay.block(1);
        bay.take(m);
        bay.back(1);
        Rig.table(bay, 0, 0, 0);
        bay.block(1);
        Rig.table(bay, 0, 256, 256);
        bay.block(1);
        bay.take(m);
        DUE.is("1 and the next double", bay.equal(1, 2), 0);
        DUE.is("1 and 1", bay.equal(1, 3), 1);
    }

    // "(each NO NUMBER is equal to each)": and to nothing else
    private static void promise13NoNumber() {
        CordBay bay = new CordBay();
        int s = Rig.source(bay, Rig.DOUBLES, 0, 0);
        int shape = Rig.behind(bay, s, Rig.SHAPE, 0);
        int turn = Rig.behind(bay, shape, Rig.TURN, Rig.DOUBLES);
        int[][] rows = {{LEAST, 0}, {0, LEAST}, {LEAST, LEAST}, {0, 0}, {-MOST, 0}};
        for (int[] row : rows) {
            Rig.table(bay, 0, row);
            bay.block(2);
            bay.take(s);
            bay.take(turn);
        }
        // Takes 1, 3, 5, .. are of the SOURCE, 2, 4, 6, .. of the TURN, whose gain is 0.
        for (int i = 0; i < 4; i++) {
            DUE.is("of two modules, row " + i, bay.equal(1 + 2 * i, 2 + 2 * i), 1);
            for (int j = 0; j < 5; j++) {
                DUE.is("rows " + i + " and " + j, bay.equal(1 + 2 * i, 1 + 2 * j), i == j ? 1 : 0);
            }
        }
    }

    // "-2 if there is no such module, or what; else -1 if it gives none"
    private static void promise14() {
        CordBay bay = new CordBay();
        int s = Rig.source(bay, Rig.FLOATS, 0, 1);
        int none = bay.module(Rig.MIX, 0);
        for (int round = 0; round < 2; round++) {
            for (int m : new int[] {LEAST, -1, 2, MOST}) {
                for (int what = -1; what <= 4; what++) {
                    DUE.is("row(" + m + ", " + what + ")", bay.row(m, what), -2);
                }
            }
            for (int what : new int[] {LEAST, -1, 4, MOST}) {
                DUE.is("row(0, " + what + ")", bay.row(s, what), -2);
                DUE.is("row(1, " + what + ")", bay.row(none, what), -2);
            }
            for (int what = 0; what <= 3; what++) {
                DUE.is("row(1, " + what + ")", bay.row(none, what), -1);
                if (round == 0) {
                    DUE.is("row(0, " + what + ") ahead of the block", bay.row(s, what), -1);
                }
            }
            bay.block(16);
        }
        int[] want = {3, 16, 0, 0};
        for (int what = 0; what <= 3; what++) {
            DUE.is("row(0, " + what + ")", bay.row(s, what), want[what]);
        }
    }

    // "1 if it is SILENT (all its samples are 0 of either sign), else 0"
    private static void promise14Silent() {
        int[][] rows = {{0, 0, 0}, {1, 0, 0}, {0, 1, 0}, {0, 0, 1}, {0, 0, -1}, {LEAST, 0, 0}, {0, 0, LEAST}, {0, 0, 0}};
        for (int rowKind = 0; rowKind < 5; rowKind++) {
            CordBay bay = new CordBay();
            int s = Rig.source(bay, rowKind, 0, 0);
            for (int[] row : rows) {
                Rig.table(bay, 0, row);
                DUE.done("SILENT", bay, 3);
                boolean silent = true;
                for (int v : row) {
                    // Of GATES what is not above 0 is 0.
                    silent = silent && (v == 0 || rowKind == Rig.GATES && v < 0);
                }
                DUE.is("SILENT of kind " + rowKind, bay.row(s, 2), silent ? 1 : 0);
            }
        }
        CordBay bay = new CordBay();
        int s = Rig.source(bay, Rig.DOUBLES, 0, -1);
        int shape = Rig.behind(bay, s, Rig.SHAPE, 0);
        DUE.done("-0", bay, 2);
        DUE.row("-0", bay, shape, Rig.DOUBLES, -0.0, -0.0);
        DUE.is("-0 is SILENT", bay.row(shape, 2), 1);
        DUE.is("-1 / 256 is not", bay.row(s, 2), 0);
    }

    // "3 how many samples are NO NUMBER": none, one, all 16
    private static void promise14NoNumbers() {
        for (int many : new int[] {0, 1, 15, 16}) {
            CordBay bay = new CordBay();
            int[] values = new int[16];
            for (int i = 0; i < many; i++) {
                values[15 - i] = LEAST;
            }
            int s = Rig.source(bay, Rig.FLOATS, 0, values);
            int ints = Rig.source(bay, Rig.INTS, 0, values);
            bay.block(16);
            DUE.is(many + " of 16", bay.row(s, 3), many);
            DUE.is("of INTS none", bay.row(ints, 3), 0);
            DUE.is("SILENT", bay.row(s, 2), many == 0 ? 1 : 0);
        }
    }

    // "0 if there is none such, or NO NUMBER"; "Whether it is NO NUMBER"
    private static void promise15And16() {
        for (int n : new int[] {1, 2, 15, 16}) {
            CordBay bay = new CordBay();
            int s = Rig.source(bay, Rig.DOUBLES, 0, LEAST, 256);
            int none = bay.module(Rig.MIX, 0);
            DUE.bits("ahead of the block", bay.sample(s, 0), 0);
            DUE.is("ahead of the block", bay.isNone(s, 0), false);
            bay.block(n);
            for (int i : new int[] {LEAST, -32, -1, 0, 1, n - 1, n, 16, 31, 32, 33, MOST}) {
                boolean there = i >= 0 && i < n;
                DUE.bits("of " + n + ": sample(0, " + i + ")", bay.sample(s, i), there && i % 2 == 1 ? 1 : 0);
                DUE.is("of " + n + ": isNone(0, " + i + ")", bay.isNone(s, i), there && i % 2 == 0);
            }
            for (int m : new int[] {LEAST, -1, none, 2, 24, MOST}) {
                DUE.bits("sample(" + m + ", 0)", bay.sample(m, 0), 0);
                DUE.is("isNone(" + m + ", 0)", bay.isNone(m, 0), false);
            }
        }
    }

    // "The i-th module (from 0) of the ORDER as cords are now; -1 if there is none such"
    private static void promise17() {
        CordBay bay = new CordBay();
        for (int made = 0; made <= 24; made++) {
            for (int i : new int[] {LEAST, -1, made, made + 1, MOST}) {
                DUE.is("of " + made + ": order(" + i + ")", bay.order(i), -1);
            }
            if (made > 0) {
                DUE.is("of " + made + ": the first", bay.order(0), 0);
                DUE.is("of " + made + ": the last", bay.order(made - 1), made - 1);
            }
            bay.module(Rig.MIX, 0);
        }
        DUE.is("0 behind 23", bay.cord(23, 0, 2), 1);
        DUE.is("as cords are now: the first", bay.order(0), 1);
        DUE.is("as cords are now: the last", bay.order(23), 0);
        DUE.is("refused", bay.cord(0, 23, 0), -12);
        DUE.is("refused: the last", bay.order(23), 0);
        DUE.is("NOWHERE", bay.cord(-1, 0, 2), 1);
        DUE.is("as before", bay.order(0), 0);
        delaysFirst();
    }

    // "first the DELAYS, the least number first": the first and the last module too, and whatever their cords are
    private static void delaysFirst() {
        CordBay bay = new CordBay();
        int[] kinds = {Rig.DELAY, Rig.MIX, Rig.DELAY, Rig.MIX, Rig.DELAY};
        for (int kind : kinds) {
            bay.module(kind, 0);
        }
        int[] want = {0, 2, 4, 1, 3, -1};
        for (int round = 0; round < 2; round++) {
            for (int i = 0; i < 6; i++) {
                DUE.is("DELAYS first: order(" + i + ")", bay.order(i), want[i]);
            }
            bay.cord(1, 0, 0);
            bay.cord(3, 2, 1);
            bay.cord(4, 1, 0);
            bay.cord(0, 4, 0);
        }
    }

    // "The i-th entry (from 0) of the TRACE of the latest block; 0 if there is none such"
    private static void promise18() {
        CordBay bay = counting(0);
        bay.module(Rig.DELAY, 0);
        DUE.is("no block: trace(0)", bay.trace(0), 0);
        DUE.done("done", bay, 1);
        int[] want = {2, 1, -1, -2};
        for (int i = 0; i < 4; i++) {
            DUE.is("done: trace(" + i + ")", bay.trace(i), want[i]);
        }
        for (int i : new int[] {LEAST, -1, 4, 5, MOST}) {
            DUE.is("done: trace(" + i + ")", bay.trace(i), 0);
        }
        bay.module(Rig.SHAPE, 0);
        bay.cord(1, 0, 0);
        bay.knob(0, 0, 1);
        DUE.is("not changed by what was made since", bay.trace(4), 0);
        DUE.fails("fails at 0", bay, 1, 2, 0, -1);
        for (int i = 0; i < 4; i++) {
            DUE.is("not done: trace(" + i + ")", bay.trace(i), want[i]);
        }
        DUE.is("not done: trace(4)", bay.trace(4), 0);
        bay.knob(0, 0, 0);
        DUE.fails("fails at 2", bay, 1, 1, 2, -1);
        int[] longer = {2, 1, 3, -3, -1, -2, 0};
        for (int i = 0; i < 7; i++) {
            DUE.is("not done: trace(" + i + ")", bay.trace(i), longer[i]);
        }
    }

    // "-1 if it had none, or no such what"; "2 at which sample, -1 if at none"
    private static void promise19() {
        CordBay bay = counting(0);
        for (int what = -1; what <= 3; what++) {
            DUE.is("no block: finding(" + what + ")", bay.finding(what), -1);
        }
        int mean = Rig.behind(bay, 0, Rig.MEAN, 0);
        for (int at : new int[] {0, 1, 14, 15}) {
            bay.knob(mean, 0, -at);
            DUE.is("MEAN", bay.block(16), 5);
            int[] want = {-1, 5, mean, at, -1};
            for (int what = -1; what <= 3; what++) {
                DUE.is("at " + at + ": finding(" + what + ")", bay.finding(what), want[what + 1]);
            }
            DUE.is("finding(least)", bay.finding(LEAST), -1);
            DUE.is("finding(most)", bay.finding(MOST), -1);
        }
        bay.knob(mean, 0, -16);
        DUE.is("MEAN by -16", bay.block(16), 0);
        for (int what = -1; what <= 3; what++) {
            DUE.is("done: finding(" + what + ")", bay.finding(what), -1);
        }
        bay.knob(0, 0, 1);
        DUE.fails("module 0, at no sample", bay, 1, 2, 0, -1);
    }

    // "-1: no such what": between and past the ranges, which end with the modules that there are
    private static void promise20() {
        CordBay bay = new CordBay();
        for (int made = 0; made <= 2; made++) {
            for (int what : new int[] {LEAST, -1, 5, 9, 10 + made, 33, 34, 39, 40 + made, 63, 64, MOST}) {
                DUE.is("of " + made + ": count(" + what + ")", bay.count(what), -1);
            }
            for (int m = 0; m < made; m++) {
                DUE.is("of " + made + ": count(" + (10 + m) + ")", bay.count(10 + m), 0);
                DUE.is("of " + made + ": count(" + (40 + m) + ")", bay.count(40 + m), Rig.MIX);
            }
            DUE.is("count(0)", bay.count(0), made);
            bay.module(Rig.MIX, 0);
        }
        bay.cord(0, 1, 0);
        bay.cord(0, 2, 2);
        DUE.is("count(1)", bay.count(1), 2);
        bay.cord(-1, 1, 0);
        DUE.is("count(1) less one", bay.count(1), 1);
    }

    private static void promise20Full() {
        CordBay bay = new CordBay();
        Rig.table(bay, 0, 40000);
        for (int m = 0; m < 24; m++) {
            bay.module(m == 23 ? Rig.SOURCE : Rig.MIX, Rig.SHORTS);
        }
        DUE.done("full", bay, 2);
        DUE.is("count(9)", bay.count(9), -1);
        DUE.is("count(10)", bay.count(10), 0);
        DUE.is("count(33)", bay.count(33), 2);
        DUE.is("count(34)", bay.count(34), -1);
        DUE.is("count(39)", bay.count(39), -1);
        DUE.is("count(40)", bay.count(40), Rig.MIX);
        DUE.is("count(63)", bay.count(63), Rig.SOURCE);
        DUE.is("count(64)", bay.count(64), -1);
        for (int m = 1; m < 24; m++) {
            for (int in = 0; in < (m == 23 ? 2 : 3); in++) {
                bay.cord(0, m, in);
            }
        }
        DUE.is("count(1) of many", bay.count(1), 22 * 3 + 2);
    }
}
