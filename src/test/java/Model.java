import java.math.BigInteger;
import java.util.ArrayDeque;
import java.util.ArrayList;
import java.util.HashMap;
import java.util.List;
import java.util.Map;
import java.util.TreeSet;

/**
 * The document told a second time, with the whole Java library and without regard to room:
 * every state that ever was is kept, NO NUMBER is NaN, a finding is an exception.
 */
final class Model {
    record Line(int kind, double[] x) { }

    record Cord(int m, int in) { }

    /** What a block changes; a copy is made ahead of every block. */
    static final class Memory {
        final Map<Integer, Line> gives = new HashMap<>();
        final Map<Integer, List<Line>> fed = new HashMap<>();
        final Map<Integer, Integer> place = new HashMap<>();
        final Map<Integer, Double> kept = new HashMap<>();
        final Map<Integer, Double> old = new HashMap<>();
        final Map<Integer, Integer> up = new HashMap<>();
        final Map<Integer, Integer> knobThen = new HashMap<>();
        final Map<Integer, Integer> saturations = new HashMap<>();

        Memory copy() {
            Memory c = new Memory();
            c.gives.putAll(gives);
            fed.forEach((m, lines) -> c.fed.put(m, new ArrayList<>(lines)));
            c.place.putAll(place);
            c.kept.putAll(kept);
            c.old.putAll(old);
            c.up.putAll(up);
            c.knobThen.putAll(knobThen);
            c.saturations.putAll(saturations);
            return c;
        }
    }

    static final class Found extends Exception {
        private static final long serialVersionUID = 1L;
        final int finding;
        final int sample;

        Found(int finding, int sample) {
            this.finding = finding;
            this.sample = sample;
        }
    }

    final List<int[]> kinds = new ArrayList<>();
    final List<int[]> knobs = new ArrayList<>();
    final Map<Cord, Integer> cords = new HashMap<>();
    final Map<Integer, int[]> tables = new HashMap<>();
    final Map<Integer, List<int[]>> presets = new HashMap<>();
    final List<Line> takes = new ArrayList<>();
    Memory memory = new Memory();
    final List<Memory> ahead = new ArrayList<>();
    int oldestBack = 0;
    final List<Integer> trace = new ArrayList<>();
    int[] found = null;

    int module(int kind, int rowKind) {
        if (kind < 0 || kind > 10 || rowKind < 0 || rowKind > 4) {
            return -1;
        }
        if (kinds.size() == 24) {
            return -2;
        }
        kinds.add(new int[] {kind, rowKind});
        knobs.add(new int[3]);
        return kinds.size() - 1;
    }

    private boolean is(int m) {
        return m >= 0 && m < kinds.size();
    }

    private int kind(int m) {
        return kinds.get(m)[0];
    }

    private boolean hasIn(int m, int in) {
        return is(m) && in >= 0 && in < (kind(m) == 5 ? 3 : 2);
    }

    int cord(int o, int m, int in) {
        if (!hasIn(m, in) || !(o == -1 || is(o))) {
            return -1;
        }
        if (o >= 0 && kind(m) != 6 && kind(o) != 6) {
            int way = shortestWay(m, o, new Cord(m, in));
            if (way > 0) {
                return -10 - way;
            }
        }
        if (o == -1) {
            cords.remove(new Cord(m, in));
        } else {
            cords.put(new Cord(m, in), o);
        }
        return 1;
    }

    private int shortestWay(int start, int goal, Cord but) {
        Map<Integer, Integer> far = new HashMap<>();
        ArrayDeque<Integer> open = new ArrayDeque<>();
        far.put(start, 1);
        open.add(start);
        while (!open.isEmpty()) {
            int at = open.remove();
            if (at == goal) {
                return far.get(at);
            }
            cords.forEach((cord, o) -> {
                if (o == at && !cord.equals(but) && kind(cord.m()) != 6 && !far.containsKey(cord.m())) {
                    far.put(cord.m(), far.get(at) + 1);
                    open.add(cord.m());
                }
            });
        }
        return 0;
    }

    int from(int m, int in) {
        return hasIn(m, in) ? cords.getOrDefault(new Cord(m, in), -1) : -2;
    }

    int knob(int m, int k, int v) {
        if (!is(m) || k < 0 || k > 2 || v < -1000 || v > 1000) {
            return -2000;
        }
        int was = knobs.get(m)[k];
        knobs.get(m)[k] = v;
        return was;
    }

    int table(int t, int n) {
        if (t < 0 || t > 7 || n < -1 || n > 16) {
            return -1;
        }
        if (n == -1) {
            tables.remove(t);
        } else {
            tables.put(t, new int[n]);
        }
        return 1;
    }

    int write(int t, int i, int v) {
        if (t < 0 || t > 7) {
            return -1;
        }
        if (!tables.containsKey(t)) {
            return -2;
        }
        if (i < 0 || i >= tables.get(t).length) {
            return -3;
        }
        tables.get(t)[i] = v;
        return 1;
    }

    List<Integer> order() {
        List<Integer> acted = new ArrayList<>();
        TreeSet<Integer> left = new TreeSet<>();
        for (int m = 0; m < kinds.size(); m++) {
            (kind(m) == 6 ? acted : left).add(m);
        }
        while (!left.isEmpty()) {
            int next = -1;
            for (int m : left.descendingSet()) {
                final int at = m;
                if (cords.keySet().stream().allMatch(c -> c.m() != at || acted.contains(cords.get(c)))) {
                    next = m;
                }
            }
            left.remove(next);
            acted.add(next);
        }
        return acted;
    }

    int block(int n) {
        if (n < 1 || n > 16) {
            return -1;
        }
        Memory before = memory.copy();
        trace.clear();
        found = null;
        List<Integer> opened = new ArrayList<>();
        for (int m : order()) {
            opened.add(m);
            trace.add(m + 1);
            try {
                Line line = act(m, n);
                if (line == null) {
                    memory.gives.remove(m);
                } else {
                    memory.gives.put(m, line);
                }
            } catch (Found f) {
                found = new int[] {f.finding, m, f.sample};
                break;
            }
        }
        for (int i = opened.size() - 1; i >= 0; i--) {
            trace.add(-1 - opened.get(i));
        }
        if (found != null) {
            memory = before;
            return found[0];
        }
        for (int m = 0; m < kinds.size(); m++) {
            if (kind(m) == 6) {
                memory.fed.computeIfAbsent(m, x -> new ArrayList<>()).add(memory.gives.get(from(m, 0)));
            }
            memory.knobThen.put(m, knobs.get(m)[0]);
        }
        ahead.add(before);
        oldestBack = Math.max(oldestBack, ahead.size() - 8);
        return 0;
    }

    private Line need(int m, int in, int kind) throws Found {
        int o = from(m, in);
        if (o == -1) {
            throw new Found(1, -1);
        }
        Line line = memory.gives.get(o);
        if (line == null) {
            throw new Found(2, -1);
        }
        if (kind >= 0 && line.kind() != kind) {
            throw new Found(4, -1);
        }
        return line;
    }

    private static double at(Line line, int k) throws Found {
        if (k >= line.x().length) {
            throw new Found(3, k);
        }
        return line.x()[k];
    }

    private Line act(int m, int n) throws Found {
        int[] knob = knobs.get(m);
        int rowKind = kinds.get(m)[1];
        double[] out = new double[n];
        switch (kind(m)) {
            case 0: {
                int[] table = tables.get(knob[0]);
                if (table == null) {
                    throw new Found(2, -1);
                }
                for (int k = 0; k < n; k++) {
                    if (table.length == 0) {
                        throw new Found(5, k);
                    }
                    int place = memory.place.getOrDefault(m, 0);
                    if (place >= table.length) {
                        throw new Found(3, k);
                    }
                    int v = table[place];
                    memory.place.put(m, (((place + knob[1]) % table.length) + table.length) % table.length);
                    out[k] = v == Integer.MIN_VALUE && rowKind >= 3 ? Double.NaN : whole(m, v, rowKind);
                }
                return new Line(rowKind, out);
            }
            case 1: case 2: case 3: case 4: {
                Line in = need(m, 0, 4);
                for (int k = 0; k < n; k++) {
                    double x = at(in, k);
                    out[k] = Double.isNaN(x) ? x : shape(m, x, k, n);
                }
                return new Line(4, out);
            }
            case 5:
                return mix(m, n);
            case 6: {
                List<Line> fed = memory.fed.getOrDefault(m, List.of());
                int ago = Math.min(4, Math.max(1, knob[0]));
                return ago > fed.size() ? null : fed.get(fed.size() - ago);
            }
            case 7: {
                Line in = need(m, 0, 4);
                for (int k = 0; k < n; k++) {
                    double x = at(in, k);
                    if (x * 8 >= knob[0]) {
                        memory.up.put(m, 1);
                    } else if (x * 8 <= knob[1]) {
                        memory.up.put(m, 0);
                    }
                    out[k] = memory.up.getOrDefault(m, 0);
                }
                return new Line(0, out);
            }
            case 8: {
                Line in = need(m, 0, -1);
                for (int k = 0; k < n; k++) {
                    double x = at(in, k);
                    out[k] = in.kind() < 3 ? whole(m, (int) x, rowKind) : floating(m, x, rowKind);
                }
                return new Line(rowKind, out);
            }
            case 9: {
                Line in = need(m, 0, -1);
                Line gates = need(m, 1, 0);
                return at(gates, n - 1) == 1 ? in : null;
            }
            default: {
                Line in = need(m, 0, 2);
                BigInteger sum = BigInteger.ZERO;
                for (int k = 0; k < n; k++) {
                    sum = sum.add(BigInteger.valueOf((long) at(in, k)));
                    if (k + knob[0] == 0) {
                        throw new Found(5, k);
                    }
                    out[k] = hold(m, sum.divide(BigInteger.valueOf(k + knob[0])), 32);
                }
                return new Line(2, out);
            }
        }
    }

    private Line mix(int m, int n) throws Found {
        List<Line> lines = new ArrayList<>();
        for (int in = 0; in < 3; in++) {
            Line line = memory.gives.get(from(m, in));
            if (line != null) {
                if (line.kind() != 2) {
                    throw new Found(4, -1);
                }
                lines.add(line);
            }
        }
        if (lines.isEmpty()) {
            return null;
        }
        double[] out = new double[n];
        for (int k = 0; k < n; k++) {
            BigInteger sum = BigInteger.ZERO;
            for (Line line : lines) {
                sum = sum.add(BigInteger.valueOf((long) at(line, k)));
            }
            out[k] = hold(m, sum, 32);
        }
        return new Line(2, out);
    }

    private double hold(int m, BigInteger v, int bits) {
        BigInteger most = BigInteger.ONE.shiftLeft(bits - 1).subtract(BigInteger.ONE);
        BigInteger held = v.min(most).max(most.not());
        if (!held.equals(v)) {
            memory.saturations.merge(m, 1, Integer::sum);
        }
        return held.doubleValue();
    }

    private static double hold(double x) {
        return Math.max(-1e6, Math.min(1e6, x));
    }

    private double whole(int m, int v, int rowKind) {
        switch (rowKind) {
            case 0:
                return v > 0 ? 1 : 0;
            case 1:
                return hold(m, BigInteger.valueOf(v), 16);
            case 2:
                return v;
            case 3:
                return (float) hold(v * 0.00390625);
            default:
                return hold(v * 0.00390625);
        }
    }

    private double floating(int m, double x, int rowKind) {
        switch (rowKind) {
            case 0:
                return x > 0 ? 1 : 0;
            case 1:
                return hold(m, BigInteger.valueOf((int) (x * 256)), 16);
            case 2:
                return (int) (x * 256);
            case 3:
                return (float) x;
            default:
                return x;
        }
    }

    private double shape(int m, double x, int k, int n) {
        int[] knob = knobs.get(m);
        int o = memory.knobThen.getOrDefault(m, 0);
        double part = (double) ((knob[0] - o) * (k + 1)) / (double) n;
        double y = hold(((double) o + part) / 8.0 * x);
        if (kind(m) == 1) {
            return y;
        }
        double z = hold(y + memory.kept.getOrDefault(m, 0.0) * (knob[1] * 0.125));
        memory.kept.put(m, z);
        if (kind(m) < 4) {
            return z;
        }
        double late = hold(z + memory.old.getOrDefault(m, 0.0));
        memory.old.put(m, hold(z * (knob[2] * 0.125)));
        return late;
    }

    int back(int n) {
        if (n < 1 || n > 8 || n > count(3)) {
            return -1;
        }
        for (int i = 0; i < n; i++) {
            memory = ahead.remove(ahead.size() - 1);
        }
        return count(3);
    }

    int keep(int p) {
        if (p < 0 || p > 7) {
            return -1;
        }
        List<int[]> kept = new ArrayList<>();
        knobs.forEach(k -> kept.add(k.clone()));
        presets.put(p, kept);
        return kept.size();
    }

    int recall(int p) {
        if (p < 0 || p > 7) {
            return -1;
        }
        if (!presets.containsKey(p)) {
            return -2;
        }
        List<int[]> kept = presets.get(p);
        for (int m = 0; m < kept.size(); m++) {
            knobs.set(m, kept.get(m).clone());
        }
        return kept.size();
    }

    int take(int m) {
        if (!is(m)) {
            return -1;
        }
        if (!memory.gives.containsKey(m)) {
            return -2;
        }
        if (takes.size() == 40) {
            return -3;
        }
        takes.add(memory.gives.get(m));
        return takes.size();
    }

    int equal(int t, int u) {
        if (t < 1 || u < 1 || t > takes.size() || u > takes.size()) {
            return -1;
        }
        Line a = takes.get(t - 1);
        Line b = takes.get(u - 1);
        return a.kind() == b.kind() && java.util.Arrays.equals(a.x(), b.x()) ? 1 : 0;
    }

    int row(int m, int what) {
        if (!is(m) || what < 0 || what > 3) {
            return -2;
        }
        Line line = memory.gives.get(m);
        if (line == null) {
            return -1;
        }
        int nones = 0;
        int zeros = 0;
        for (double x : line.x()) {
            nones += Double.isNaN(x) ? 1 : 0;
            zeros += x == 0 ? 1 : 0;
        }
        return new int[] {line.kind(), line.x().length, zeros == line.x().length ? 1 : 0, nones}[what];
    }

    /** NaN for NO NUMBER, 0 if there is no such sample. */
    double raw(int m, int i) {
        Line line = memory.gives.get(m);
        return line == null || i < 0 || i >= line.x().length ? 0 : line.x()[i];
    }

    int order(int i) {
        List<Integer> all = order();
        return i < 0 || i >= all.size() ? -1 : all.get(i);
    }

    int trace(int i) {
        return i < 0 || i >= trace.size() ? 0 : trace.get(i);
    }

    int finding(int what) {
        return found == null || what < 0 || what > 2 ? -1 : found[what];
    }

    int count(int what) {
        switch (what) {
            case 0:
                return kinds.size();
            case 1:
                return cords.size();
            case 2:
                return ahead.size();
            case 3:
                return Math.max(0, ahead.size() - oldestBack);
            case 4:
                return takes.size();
            default:
                if (is(what - 10)) {
                    return memory.saturations.getOrDefault(what - 10, 0);
                }
                return is(what - 40) ? kind(what - 40) : -1;
        }
    }
}
