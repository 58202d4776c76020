/**
 * Many runs of calls, drawn by a fixed rule, answered by the class and by the Model alike. Each bay has no more calls
 * than the document promises anything about, so some runs look at much after every block, and others have more blocks.
 */
public final class ModelTest {
    private static final int RUNS = 2000;
    private static final int CALLS = 512;
    private static final int LONGEST_STEP = 17;
    private static final int[] VALUES = {0, 1, -1, 256, -256, 255, 1000, -70000, 32767, 32768, -32768, -32769,
        16777217, 255999999, 256000001, -256000001, Integer.MAX_VALUE, Integer.MIN_VALUE, Integer.MIN_VALUE + 1};
    private static final int[] KNOBS = {0, 1, -1, 2, 3, 4, 5, 7, 8, -8, 9, 16, -3, 13, 100, -100, 999, 1000, -1000};
    private static final int[] ODD = {-1, -2, 8, 11, 16, 17, 24, 1001, -1001, Integer.MAX_VALUE, Integer.MIN_VALUE};

    private final Due due;
    private final String name;
    private final CordBay bay = new CordBay();
    private final Model model = new Model();
    private final int modulesWanted;
    private final int lookEvery;
    private long seed;
    private int call = 0;
    int blocksDone = 0;

    private ModelTest(Due due, int run) {
        this.due = due;
        this.name = "run " + run + " call ";
        this.seed = run * 7919L + 17;
        this.modulesWanted = 2 + draw(23);
        this.lookEvery = 1 + run % 12;
    }

    public static void main(String[] args) {
        Due due = new Due("ModelTest");
        int done = 0;
        for (int run = 0; run < RUNS; run++) {
            ModelTest test = new ModelTest(due, run);
            test.play();
            done += test.blocksDone;
        }
        System.out.println("ModelTest: " + done + " blocks done");
        due.is("enough blocks are done for the runs to mean something", done > 10 * RUNS, true);
        due.end();
    }

    private int draw(int bound) {
        seed = seed * 6364136223846793005L + 1442695040888963407L;
        return (int) ((seed >>> 33) % bound);
    }

    private int of(int... values) {
        return values[draw(values.length)];
    }

    /** A number below the bound, now and then one that is none such. */
    private int about(int bound) {
        return draw(25) == 0 || bound <= 0 ? of(ODD) : draw(bound);
    }

    private void play() {
        for (int t = 0; t < 3; t++) {
            tableFilled(t);
        }
        while (call + LONGEST_STEP < CALLS) {
            int which = draw(100);
            if (which < 15 && model.count(0) < modulesWanted) {
                moduleJoined();
            } else if (which < 65) {
                blockOrBack();
            } else if (which < 80) {
                setting();
            } else if (which < 90) {
                presetOrTake();
            } else {
                question();
            }
        }
    }

    private boolean more() {
        return call < CALLS;
    }

    private void same(String what, long got, long want) {
        call++;
        due.is(name + call + ": " + what, got, want);
    }

    private void tableFilled(int t) {
        int n = of(1, 2, 3, 5, 16);
        same("table", bay.table(t, n), model.table(t, n));
        for (int i = 0; i < n; i++) {
            int v = draw(3) == 0 ? of(VALUES) : draw(200000) - 100000;
            same("write", bay.write(t, i, v), model.write(t, i, v));
        }
    }

    /** A new module with cords and knobs such that blocks are often done. */
    private void moduleJoined() {
        int kind = draw(3) == 0 ? 0 : draw(11);
        int rowKind = of(0, 1, 2, 2, 3, 4, 4, 4);
        int m = model.module(kind, rowKind);
        same("module", bay.module(kind, rowKind), m);
        if (m < 0) {
            return;
        }
        setKnob(m, 0, kind == 0 ? draw(3) : of(KNOBS));
        setKnob(m, 1, kind == 0 ? of(0, 1, 1, 2, -1, 1000) : of(KNOBS));
        setKnob(m, 2, of(KNOBS));
        int wanted = kind == 5 || kind == 10 ? 2 : kind >= 1 && kind <= 4 || kind == 7 ? 4 : -1;
        join(m, 0, wanted);
        if (kind == 9) {
            join(m, 1, 0);
        } else if (draw(4) == 0) {
            join(m, 1, wanted);
        }
        if (kind == 5 && draw(2) == 0) {
            join(m, 2, 2);
        }
    }

    private void setKnob(int m, int k, int v) {
        same("knob", bay.knob(m, k, v), model.knob(m, k, v));
    }

    private void join(int m, int in, int wanted) {
        for (int tries = 0; tries < 40; tries++) {
            int o = draw(model.count(0));
            if (givesKind(o, wanted)) {
                same("cord", bay.cord(o, m, in), model.cord(o, m, in));
                return;
            }
        }
    }

    private boolean givesKind(int o, int wanted) {
        int kind = model.count(40 + o);
        switch (kind) {
            case 0:
            case 8:
                return wanted == -1 || model.kinds.get(o)[1] == wanted;
            case 5:
            case 10:
                return wanted == -1 || wanted == 2;
            case 7:
                return wanted == -1 || wanted == 0;
            case 6:
            case 9:
                return draw(6) == 0;
            default:
                return wanted == -1 || wanted == 4;
        }
    }

    private void blockOrBack() {
        if (draw(5) == 0) {
            int n = draw(6) == 0 ? of(0, 8, 9, -1, 5) : 1 + draw(3);
            same("back(" + n + ")", bay.back(n), model.back(n));
        } else {
            int n = draw(20) == 0 ? of(ODD) : of(1, 2, 2, 2, 2, 3, 7, 16);
            int answer = model.block(n);
            same("block(" + n + ")", bay.block(n), answer);
            if (answer == 0) {
                blocksDone++;
            } else if (answer > 0) {
                mend(model.finding(1));
            }
        }
        if (draw(lookEvery) == 0) {
            compareSome();
        }
    }

    /** Lets most runs go on after a finding. */
    private void mend(int m) {
        int kind = model.count(40 + m);
        if (kind == 0) {
            setKnob(m, 0, draw(3));
            setKnob(m, 1, of(0, 1));
        } else if (kind == 10) {
            setKnob(m, 0, of(1, 2, -20, 999));
        }
        if (kind != 0 && draw(2) == 0) {
            int wanted = kind == 5 || kind == 10 ? 2 : kind == 8 || kind == 9 ? -1 : 4;
            join(m, 0, wanted);
            if (kind == 9) {
                join(m, 1, 0);
            }
        }
    }

    /** Two modules and some of the rest; what is overlooked now is seen in another run. */
    private void compareSome() {
        for (int i = 0; i < 2 && model.count(0) > 0; i++) {
            compareModule(draw(model.count(0)));
        }
        for (int i = 0; i < 3 && more(); i++) {
            int at = draw(model.trace.size() + 1);
            same("trace(" + at + ")", bay.trace(at), model.trace(at));
        }
        for (int what = 0; what < 3 && more(); what++) {
            same("finding(" + what + ")", bay.finding(what), model.finding(what));
        }
        for (int what = 0; what < 5 && more(); what++) {
            same("count(" + what + ")", bay.count(what), model.count(what));
        }
    }

    private void compareModule(int m) {
        for (int what = 0; what < 4 && more(); what++) {
            same("row(" + m + ", " + what + ")", bay.row(m, what), model.row(m, what));
        }
        for (int i = 0; i < model.row(m, 1) && more(); i++) {
            compareSample(m, i);
        }
        if (more()) {
            same("saturations of " + m, bay.count(10 + m), model.count(10 + m));
        }
        if (more()) {
            same("order(" + m + ")", bay.order(m), model.order(m));
        }
    }

    /** One call: a sample that is there is asked for itself, one that is NO NUMBER or is not there whether it is that. */
    private void compareSample(int m, int i) {
        double want = model.raw(m, i);
        if (Double.isNaN(want) || draw(5) == 0) {
            same("isNone(" + m + ", " + i + ")", bay.isNone(m, i) ? 1 : 0, Double.isNaN(want) ? 1 : 0);
        } else {
            call++;
            due.bits(name + call + ": sample(" + m + ", " + i + ")", bay.sample(m, i), want);
        }
    }

    private void setting() {
        int modules = model.count(0);
        int which = draw(10);
        if (which < 5) {
            setKnob(about(modules), about(3), draw(20) == 0 ? of(ODD) : of(KNOBS));
        } else if (which < 8) {
            int o = draw(8) == 0 ? -1 : about(modules);
            int m = about(modules);
            int in = draw(4);
            same("cord(" + o + ", " + m + ", " + in + ")", bay.cord(o, m, in), model.cord(o, m, in));
        } else if (which < 9) {
            int t = about(4);
            int i = about(16);
            int v = of(VALUES);
            same("write", bay.write(t, i, v), model.write(t, i, v));
        } else if (draw(4) == 0) {
            int t = about(8);
            int n = draw(3) == 0 ? of(ODD) : draw(17);
            same("table", bay.table(t, n), model.table(t, n));
        } else {
            tableFilled(draw(3));
        }
    }

    private void presetOrTake() {
        int p = about(8);
        int m = about(model.count(0));
        switch (draw(4)) {
            case 0:
                same("keep(" + p + ")", bay.keep(p), model.keep(p));
                break;
            case 1:
                same("recall(" + p + ")", bay.recall(p), model.recall(p));
                break;
            case 2:
                same("take(" + m + ")", bay.take(m), model.take(m));
                break;
            default:
                compareTakes();
                break;
        }
    }

    private void compareTakes() {
        int t = about(model.count(4) + 2);
        for (int i = 0; i < 4 && more(); i++) {
            int u = draw(model.count(4) + 2);
            same("equal(" + t + ", " + u + ")", bay.equal(t, u), model.equal(t, u));
        }
    }

    private void question() {
        int m = about(model.count(0));
        int i = about(16);
        switch (draw(8)) {
            case 0:
                same("row(" + m + ", " + i + ")", bay.row(m, i), model.row(m, i));
                break;
            case 1:
                compareSample(m, i);
                break;
            case 2:
                same("order(" + i + ")", bay.order(i), model.order(i));
                break;
            case 3:
                same("trace(" + i + ")", bay.trace(i), model.trace(i));
                break;
            case 4:
                same("finding(" + i + ")", bay.finding(i), model.finding(i));
                break;
            case 5:
                same("from(" + m + ", " + i + ")", bay.from(m, i % 4), model.from(m, i % 4));
                break;
            case 6:
                same("module", bay.module(-1 - i, m), model.module(-1 - i, m));
                break;
            default:
                int what = about(70);
                same("count(" + what + ")", bay.count(what), model.count(what));
                break;
        }
    }
}
