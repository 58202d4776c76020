/** A bay of modules that are joined by cords. ../shared/DOC.md promises what each call does. */
public final class CordBay {
    private static final int MOST_MODULES = 24;
    private static final int MOST_SAMPLES = 16;
    private static final int MOST_TAKES = 40;
    private static final int MOST_BACK = 8;
    private static final int MOST_ECHO = 4;
    private static final int TABLES = 8;
    private static final int PRESETS = 8;
    private static final int KNOBS = 3;
    private static final int KNOB_END = 1000;
    private static final int NOWHERE = -1;
    private static final int UNSET = -1;
    private static final int LEAST_SHORT = -32768;
    private static final int MOST_SHORT = 32767;
    private static final int LEAST_INT = -2147483648;
    private static final int MOST_INT = 2147483647;

    private static final int SOURCE = 0;
    private static final int SHAPE = 1;
    private static final int FILTER = 2;
    private static final int SLOW = 3;
    private static final int LATE = 4;
    private static final int MIX = 5;
    private static final int DELAY = 6;
    private static final int GATE = 7;
    private static final int TURN = 8;
    private static final int SWITCH = 9;
    private static final int MEAN = 10;

    private static final int GATES = 0;
    private static final int SHORTS = 1;
    private static final int INTS = 2;
    private static final int FLOATS = 3;
    private static final int DOUBLES = 4;
    private static final int ANY_ROW = -1;

    private static final int NO_FINDING = 0;
    private static final int NO_CORD = 1;
    private static final int NOT_THERE = 2;
    private static final int TOO_SHORT = 3;
    private static final int WRONG_KIND = 4;
    private static final int DIVISOR_ZERO = 5;
    private static final int AT_NO_SAMPLE = -1;

    private final Patch patch = new Patch();
    private final Table[] tables = new Table[TABLES];
    private final int[][] presetKnobs = new int[PRESETS][MOST_MODULES * KNOBS];
    private final int[] presetSizes = new int[PRESETS];
    private final Row[] takes = new Row[MOST_TAKES];
    private int takeCount = 0;
    private Block latest = null;
    private int blocksDone = 0;
    private int backable = 0;

    public CordBay() {
        for (int t = 0; t < TABLES; t++) {
            tables[t] = new Table();
        }
        for (int p = 0; p < PRESETS; p++) {
            presetSizes[p] = UNSET;
        }
    }

    public int module(int kind, int rowKind) {
        if (kind < SOURCE || kind > MEAN || rowKind < GATES || rowKind > DOUBLES) {
            return -1;
        }
        if (patch.size >= MOST_MODULES) {
            return -2;
        }
        return patch.add(new Unit(kind, rowKind));
    }

    public int cord(int o, int m, int in) {
        Unit unit = patch.unitAt(m);
        if (unit == null || !unit.hasIn(in) || (o != NOWHERE && patch.unitAt(o) == null)) {
            return -1;
        }
        int loop = patch.loopClosedBy(o, m);
        if (loop > 0) {
            return -10 - loop;
        }
        unit.ins[in] = o;
        return 1;
    }

    public int from(int m, int in) {
        Unit unit = patch.unitAt(m);
        if (unit == null || !unit.hasIn(in)) {
            return -2;
        }
        return unit.ins[in];
    }

    public int knob(int m, int k, int v) {
        Unit unit = patch.unitAt(m);
        if (unit == null || k < 0 || k >= KNOBS || v < -KNOB_END || v > KNOB_END) {
            return -2000;
        }
        int was = unit.knobs[k];
        unit.knobs[k] = v;
        return was;
    }

    public int table(int t, int n) {
        if (t < 0 || t >= TABLES || n < UNSET || n > MOST_SAMPLES) {
            return -1;
        }
        tables[t].renew(n);
        return 1;
    }

    public int write(int t, int i, int v) {
        if (t < 0 || t >= TABLES) {
            return -1;
        }
        Table table = tables[t];
        if (table.length == UNSET) {
            return -2;
        }
        if (i < 0 || i >= table.length) {
            return -3;
        }
        table.places[i] = v;
        return 1;
    }

    public int block(int n) {
        if (n < 1 || n > MOST_SAMPLES) {
            return -1;
        }
        int slot = slotOf(blocksDone);
        patch.saveStates(slot);
        latest = new Block(patch, tables, n);
        latest.perform();
        if (latest.code != NO_FINDING) {
            patch.restoreStates(slot);
            return latest.code;
        }
        patch.closeDoneBlock();
        blocksDone++;
        backable = Math.min(backable + 1, MOST_BACK);
        return 0;
    }

    public int back(int n) {
        if (n < 1 || n > MOST_BACK || n > backable) {
            return -1;
        }
        blocksDone -= n;
        backable -= n;
        patch.restoreStates(slotOf(blocksDone));
        return backable;
    }

    public int keep(int p) {
        if (p < 0 || p >= PRESETS) {
            return -1;
        }
        for (int m = 0; m < patch.size; m++) {
            System.arraycopy(patch.units[m].knobs, 0, presetKnobs[p], m * KNOBS, KNOBS);
        }
        presetSizes[p] = patch.size;
        return patch.size;
    }

    public int recall(int p) {
        if (p < 0 || p >= PRESETS) {
            return -1;
        }
        if (presetSizes[p] == UNSET) {
            return -2;
        }
        for (int m = 0; m < presetSizes[p]; m++) {
            System.arraycopy(presetKnobs[p], m * KNOBS, patch.units[m].knobs, 0, KNOBS);
        }
        return presetSizes[p];
    }

    public int take(int m) {
        Unit unit = patch.unitAt(m);
        if (unit == null) {
            return -1;
        }
        Row given = unit.now.gives;
        if (given == null) {
            return -2;
        }
        if (takeCount >= MOST_TAKES) {
            return -3;
        }
        // A row never changes once its block is over, so the take needs no copy.
        takes[takeCount] = given;
        takeCount++;
        return takeCount;
    }

    public int equal(int t, int u) {
        if (!isTake(t) || !isTake(u)) {
            return -1;
        }
        return takes[t - 1].sameAs(takes[u - 1]) ? 1 : 0;
    }

    public int row(int m, int what) {
        Unit unit = patch.unitAt(m);
        if (unit == null || what < 0 || what > 3) {
            return -2;
        }
        Row given = unit.now.gives;
        if (given == null) {
            return -1;
        }
        switch (what) {
            case 0:
                return given.kind;
            case 1:
                return given.length();
            case 2:
                return given.isSilent() ? 1 : 0;
            default:
                return Integer.bitCount(given.lacking);
        }
    }

    public double sample(int m, int i) {
        Row given = givenBy(m);
        if (given == null || !given.reaches(i) || given.lacks(i)) {
            return 0;
        }
        return given.values[i];
    }

    public boolean isNone(int m, int i) {
        Row given = givenBy(m);
        return given != null && given.reaches(i) && given.lacks(i);
    }

    public int order(int i) {
        patch.arrange();
        return i >= 0 && i < patch.arranged ? patch.sequence[i] : -1;
    }

    public int trace(int i) {
        return latest == null ? 0 : latest.traceEntry(i);
    }

    public int finding(int what) {
        if (latest == null || latest.code == NO_FINDING) {
            return -1;
        }
        switch (what) {
            case 0:
                return latest.code;
            case 1:
                return latest.acting;
            case 2:
                return latest.atSample;
            default:
                return -1;
        }
    }

    public int count(int what) {
        switch (what) {
            case 0:
                return patch.size;
            case 1:
                return patch.cordsInUse();
            case 2:
                return blocksDone;
            case 3:
                return backable;
            case 4:
                return takeCount;
            default:
                return countOfUnit(what);
        }
    }

    private int countOfUnit(int what) {
        if (what >= 10 && what < 10 + patch.size) {
            return patch.units[what - 10].now.saturations;
        }
        if (what >= 40 && what < 40 + patch.size) {
            return patch.units[what - 40].kind;
        }
        return -1;
    }

    private Row givenBy(int m) {
        Unit unit = patch.unitAt(m);
        return unit == null ? null : unit.now.gives;
    }

    private boolean isTake(int t) {
        return t >= 1 && t <= takeCount;
    }

    /** Where the states are that stood when so many blocks were done. */
    private static int slotOf(int done) {
        return Math.floorMod(done, MOST_BACK + 1);
    }

    /** A table of ints, or a missing one. */
    private static final class Table {
        final int[] places = new int[MOST_SAMPLES];
        int length = UNSET;

        void renew(int newLength) {
            for (int i = 0; i < MOST_SAMPLES; i++) {
                places[i] = 0;
            }
            length = newLength;
        }
    }

    /** A row of samples. NO NUMBER is a bit beside the values, because no value may be NaN. */
    private static final class Row {
        final int kind;
        final double[] values;
        int lacking = 0;

        Row(int kind, int length) {
            this.kind = kind;
            this.values = new double[Math.max(length, 0)];
        }

        int length() {
            return values.length;
        }

        boolean reaches(int i) {
            return i >= 0 && i < values.length;
        }

        boolean lacks(int i) {
            return (lacking >> i & 1) == 1;
        }

        void setLacking(int i) {
            lacking |= 1 << i;
        }

        boolean isSilent() {
            if (lacking != 0) {
                return false;
            }
            for (int i = 0; i < values.length; i++) {
                if (values[i] != 0) {
                    return false;
                }
            }
            return true;
        }

        boolean sameAs(Row other) {
            if (kind != other.kind || values.length != other.values.length || lacking != other.lacking) {
                return false;
            }
            for (int i = 0; i < values.length && i < other.values.length; i++) {
                if (!lacks(i) && !sameBits(values[i], other.values[i])) {
                    return false;
                }
            }
            return true;
        }

        private static boolean sameBits(double a, double b) {
            return a == b && (a != 0 || isNegativeZero(a) == isNegativeZero(b));
        }

        // Of the operations at hand only 1 / 0 tells the sign of a zero: it is an infinity of that sign.
        private static boolean isNegativeZero(double zero) {
            return 1.0 / zero < 0;
        }
    }

    /** All of a module that a block changes, and that is put back when the block fails or is taken back. */
    private static final class State {
        Row gives = null;
        final Row[] fed = new Row[MOST_ECHO];
        int place = 0;
        double kept = 0;
        double old = 0;
        int up = 0;
        int knobBefore = 0;
        int saturations = 0;

        void copyFrom(State other) {
            gives = other.gives;
            for (int i = 0; i < MOST_ECHO; i++) {
                fed[i] = other.fed[i];
            }
            place = other.place;
            kept = other.kept;
            old = other.old;
            up = other.up;
            knobBefore = other.knobBefore;
            saturations = other.saturations;
        }

        void feed(Row row) {
            for (int i = MOST_ECHO - 1; i > 0; i--) {
                fed[i] = fed[i - 1];
            }
            fed[0] = row;
        }

        long hold(long v, long least, long most) {
            if (v >= least && v <= most) {
                return v;
            }
            saturations++;
            return v < least ? least : most;
        }

        long holdShort(long v) {
            return hold(v, LEAST_SHORT, MOST_SHORT);
        }

        long holdInt(long v) {
            return hold(v, LEAST_INT, MOST_INT);
        }
    }

    /** A module: what its maker and the bay's user set, and its states. */
    private static final class Unit {
        final int kind;
        final int rowKind;
        final int[] knobs = new int[KNOBS];
        final int[] ins;
        final State now = new State();
        // One more than can be taken back: the block under way must not overwrite the oldest.
        // A slot saved before the module was made still has the first state, as it should.
        final State[] saved = new State[MOST_BACK + 1];

        Unit(int kind, int rowKind) {
            this.kind = kind;
            this.rowKind = rowKind;
            this.ins = new int[kind == MIX ? 3 : 2];
            for (int in = 0; in < ins.length; in++) {
                ins[in] = NOWHERE;
            }
            for (int slot = 0; slot < saved.length; slot++) {
                saved[slot] = new State();
            }
        }

        boolean hasIn(int in) {
            return in >= 0 && in < ins.length;
        }
    }

    /** The modules and the cords between them. */
    private static final class Patch {
        final Unit[] units = new Unit[MOST_MODULES];
        int size = 0;
        final int[] sequence = new int[MOST_MODULES];
        int arranged = 0;
        private final boolean[] ready = new boolean[MOST_MODULES];
        private final int[] steps = new int[MOST_MODULES];

        Unit unitAt(int m) {
            return m >= 0 && m < size ? units[m] : null;
        }

        int add(Unit unit) {
            units[size] = unit;
            size++;
            return size - 1;
        }

        int cordsInUse() {
            int cords = 0;
            for (int m = 0; m < size; m++) {
                for (int o : units[m].ins) {
                    cords += o == NOWHERE ? 0 : 1;
                }
            }
            return cords;
        }

        void saveStates(int slot) {
            for (int m = 0; m < size; m++) {
                units[m].saved[slot].copyFrom(units[m].now);
            }
        }

        void restoreStates(int slot) {
            for (int m = 0; m < size; m++) {
                units[m].now.copyFrom(units[m].saved[slot]);
            }
        }

        /** Feeds the delays, and keeps from where the knobs will come in the next block. */
        void closeDoneBlock() {
            for (int m = 0; m < size; m++) {
                Unit unit = units[m];
                unit.now.knobBefore = unit.knobs[0];
                if (unit.kind == DELAY) {
                    Unit giver = unitAt(unit.ins[0]);
                    unit.now.feed(giver == null ? null : giver.now.gives);
                }
            }
        }

        /** How many modules the shortest loop without a DELAY has that a cord from o to m closes; 0 if none. */
        int loopClosedBy(int o, int m) {
            if (unitAt(o) == null || unitAt(m) == null || units[m].kind == DELAY) {
                return 0;
            }
            for (int i = 0; i < size; i++) {
                steps[i] = 0;
            }
            // m is reached from the start, so the cord that m's in has now is never followed.
            steps[m] = 1;
            for (int step = 1; step < size && steps[o] == 0; step++) {
                reachFrom(step);
            }
            return steps[o];
        }

        private void reachFrom(int step) {
            for (int i = 0; i < size; i++) {
                if (steps[i] == 0 && units[i].kind != DELAY && hasCordFromStep(units[i], step)) {
                    steps[i] = step + 1;
                }
            }
        }

        private boolean hasCordFromStep(Unit unit, int step) {
            for (int o : unit.ins) {
                if (unitAt(o) != null && steps[o] == step) {
                    return true;
                }
            }
            return false;
        }

        /** Puts the modules into the order in which they act. */
        void arrange() {
            arranged = 0;
            for (int m = 0; m < size; m++) {
                ready[m] = false;
            }
            for (int m = 0; m < size; m++) {
                if (units[m].kind == DELAY) {
                    append(m);
                }
            }
            for (int round = arranged; round < size; round++) {
                int next = leastThatCanAct();
                if (next >= 0) {
                    append(next);
                }
            }
        }

        private void append(int m) {
            sequence[arranged] = m;
            arranged++;
            ready[m] = true;
        }

        private int leastThatCanAct() {
            for (int m = 0; m < size; m++) {
                if (!ready[m] && allCordsReady(units[m])) {
                    return m;
                }
            }
            return -1;
        }

        private boolean allCordsReady(Unit unit) {
            for (int o : unit.ins) {
                if (unitAt(o) != null && !ready[o]) {
                    return false;
                }
            }
            return true;
        }
    }

    /** One block, while it is done and as it is asked about afterwards. */
    private static final class Block {
        private final Patch patch;
        private final Table[] tables;
        private final int n;
        private final int[] opened;
        private int openedCount = 0;
        private Unit unit = null;
        private State state = null;
        int code = NO_FINDING;
        int acting = -1;
        int atSample = AT_NO_SAMPLE;

        Block(Patch patch, Table[] tables, int n) {
            this.patch = patch;
            this.tables = tables;
            this.n = n;
            this.opened = new int[patch.size];
        }

        void perform() {
            patch.arrange();
            for (int i = 0; i < patch.arranged && i < opened.length && code == NO_FINDING; i++) {
                acting = patch.sequence[i];
                opened[i] = acting;
                openedCount = i + 1;
                unit = patch.units[acting];
                state = unit.now;
                state.gives = act();
            }
        }

        int traceEntry(int i) {
            if (i < 0 || i >= 2 * openedCount) {
                return 0;
            }
            return i < openedCount ? opened[i] + 1 : -1 - opened[2 * openedCount - 1 - i];
        }

        private Row act() {
            switch (unit.kind) {
                case SOURCE:
                    return actSource();
                case SHAPE:
                case FILTER:
                case SLOW:
                case LATE:
                    return actShape();
                case MIX:
                    return actMix();
                case DELAY:
                    return state.fed[Math.max(1, Math.min(unit.knobs[0], MOST_ECHO)) - 1];
                case GATE:
                    return actGate();
                case TURN:
                    return actTurn();
                case SWITCH:
                    return actSwitch();
                default:
                    return actMean();
            }
        }

        /** Tells the finding; answers the row that a module gives that fails. */
        private Row fail(int finding, int k) {
            code = finding;
            atSample = k;
            return null;
        }

        private Row rowBehind(int in) {
            Unit giver = unit.hasIn(in) ? patch.unitAt(unit.ins[in]) : null;
            return giver == null ? null : giver.now.gives;
        }

        /** The row at an in; null after a finding. */
        private Row wantRow(int in, int kind) {
            if (!unit.hasIn(in) || unit.ins[in] == NOWHERE) {
                return fail(NO_CORD, AT_NO_SAMPLE);
            }
            Row row = rowBehind(in);
            if (row == null) {
                return fail(NOT_THERE, AT_NO_SAMPLE);
            }
            if (kind != ANY_ROW && row.kind != kind) {
                return fail(WRONG_KIND, AT_NO_SAMPLE);
            }
            return row;
        }

        private Row actSource() {
            int t = unit.knobs[0];
            if (t < 0 || t >= TABLES || tables[t].length == UNSET) {
                return fail(NOT_THERE, AT_NO_SAMPLE);
            }
            Table table = tables[t];
            Row out = new Row(unit.rowKind, n);
            for (int k = 0; k < n; k++) {
                if (table.length == 0) {
                    return fail(DIVISOR_ZERO, k);
                }
                if (state.place >= table.length) {
                    return fail(TOO_SHORT, k);
                }
                int v = table.places[state.place];
                state.place = Math.floorMod(state.place + unit.knobs[1], table.length);
                if (v == LEAST_INT && out.kind >= FLOATS) {
                    out.setLacking(k);
                } else {
                    putWhole(out, k, v);
                }
            }
            return out;
        }

        private void putWhole(Row out, int k, int v) {
            switch (out.kind) {
                case GATES:
                    out.values[k] = v > 0 ? 1 : 0;
                    break;
                case SHORTS:
                    out.values[k] = state.holdShort(v);
                    break;
                case INTS:
                    out.values[k] = v;
                    break;
                default:
                    putFloating(out, k, held(v / 256.0));
                    break;
            }
        }

        private static void putFloating(Row out, int k, double x) {
            out.values[k] = out.kind == FLOATS ? (float) x : x;
        }

        private static double held(double x) {
            if (x > 1000000) {
                return 1000000;
            }
            return x < -1000000 ? -1000000 : x;
        }

        private Row actShape() {
            Row in = wantRow(0, DOUBLES);
            if (in == null) {
                return null;
            }
            Row out = new Row(DOUBLES, n);
            for (int k = 0; k < n; k++) {
                if (!in.reaches(k)) {
                    return fail(TOO_SHORT, k);
                }
                if (in.lacks(k)) {
                    out.setLacking(k);
                } else {
                    out.values[k] = shaped(in.values[k], k);
                }
            }
            return out;
        }

        private double shaped(double x, int k) {
            double y = held(gain(k) * x);
            if (unit.kind == SHAPE) {
                return y;
            }
            double z = held(y + state.kept * (unit.knobs[1] / 8.0));
            state.kept = z;
            if (unit.kind != LATE) {
                return z;
            }
            double late = held(z + state.old);
            state.old = held(z * (unit.knobs[2] / 8.0));
            return late;
        }

        private double gain(int k) {
            int before = state.knobBefore;
            double way = (unit.knobs[0] - before) * (k + 1);
            return (before + way / n) / 8;
        }

        private Row actMix() {
            boolean anyRow = false;
            for (int in = 0; in < unit.ins.length; in++) {
                Row row = rowBehind(in);
                if (row != null && row.kind != INTS) {
                    return fail(WRONG_KIND, AT_NO_SAMPLE);
                }
                anyRow = anyRow || row != null;
            }
            return anyRow ? sumOfIns() : null;
        }

        private Row sumOfIns() {
            Row out = new Row(INTS, n);
            for (int k = 0; k < n; k++) {
                long sum = 0;
                for (int in = 0; in < unit.ins.length; in++) {
                    Row row = rowBehind(in);
                    if (row != null) {
                        if (!row.reaches(k)) {
                            return fail(TOO_SHORT, k);
                        }
                        sum += (long) row.values[k];
                    }
                }
                out.values[k] = state.holdInt(sum);
            }
            return out;
        }

        private Row actGate() {
            Row in = wantRow(0, DOUBLES);
            if (in == null) {
                return null;
            }
            Row out = new Row(GATES, n);
            for (int k = 0; k < n; k++) {
                if (!in.reaches(k)) {
                    return fail(TOO_SHORT, k);
                }
                if (!in.lacks(k)) {
                    moveGate(in.values[k]);
                }
                out.values[k] = state.up;
            }
            return out;
        }

        private void moveGate(double x) {
            if (x >= unit.knobs[0] / 8.0) {
                state.up = 1;
            } else if (x <= unit.knobs[1] / 8.0) {
                state.up = 0;
            }
        }

        private Row actTurn() {
            Row in = wantRow(0, ANY_ROW);
            if (in == null) {
                return null;
            }
            Row out = new Row(unit.rowKind, n);
            for (int k = 0; k < n; k++) {
                if (!in.reaches(k)) {
                    return fail(TOO_SHORT, k);
                }
                if (in.kind < FLOATS) {
                    putWhole(out, k, (int) in.values[k]);
                } else if (in.lacks(k)) {
                    turnNoNumber(out, k);
                } else {
                    turnFloating(out, k, in.values[k]);
                }
            }
            return out;
        }

        private static void turnNoNumber(Row out, int k) {
            if (out.kind >= FLOATS) {
                out.setLacking(k);
            }
        }

        private void turnFloating(Row out, int k, double x) {
            switch (out.kind) {
                case GATES:
                    out.values[k] = x > 0 ? 1 : 0;
                    break;
                case SHORTS:
                    out.values[k] = state.holdShort((long) (x * 256));
                    break;
                case INTS:
                    out.values[k] = (long) (x * 256);
                    break;
                default:
                    putFloating(out, k, x);
                    break;
            }
        }

        private Row actSwitch() {
            Row in = wantRow(0, ANY_ROW);
            if (in == null) {
                return null;
            }
            Row gates = wantRow(1, GATES);
            if (gates == null) {
                return null;
            }
            if (!gates.reaches(n - 1)) {
                return fail(TOO_SHORT, n - 1);
            }
            return gates.values[n - 1] == 1 ? in : null;
        }

        private Row actMean() {
            Row in = wantRow(0, INTS);
            if (in == null) {
                return null;
            }
            Row out = new Row(INTS, n);
            long sum = 0;
            for (int k = 0; k < n; k++) {
                if (!in.reaches(k)) {
                    return fail(TOO_SHORT, k);
                }
                sum += (long) in.values[k];
                int divisor = k + unit.knobs[0];
                if (divisor == 0) {
                    return fail(DIVISOR_ZERO, k);
                }
                out.values[k] = state.holdInt(sum / divisor);
            }
            return out;
        }
    }
}
