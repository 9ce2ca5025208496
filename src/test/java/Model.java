import java.util.ArrayList;
import java.util.Arrays;
import java.util.Collections;
import java.util.List;

/**
 * The document's room once more, written as its words go: kinds are classes, findings and refusals
 * are thrown, lists grow. Slow and plain, so that the program can be held against it.
 */
final class Model {
    static final int NOTHING = -1000, BAD = -1001, FULL = -1002, STATE = -1003;

    static final class Refused extends RuntimeException {
        private static final long serialVersionUID = 1L;
        final int why;

        Refused(int why) {
            super(null, null, false, false);
            this.why = why;
        }
    }

    class Phone {
        boolean plugged;
        float[] row;

        float driven(int ear, int tone, float level) {
            trace(1);
            return own(tone, level);
        }

        float own(int tone, float level) {
            if (row == null) throw new Refused(-102);
            if (tone >= row.length) throw new Refused(-103);
            if (Float.isNaN(row[tone])) throw new Refused(-104);
            if (Float.isInfinite(row[tone])) throw new Refused(-105);
            return level + row[tone];
        }

        void mask(int ear) {
            needPlugged();
            trace(10);
        }

        void needPlugged() {
            if (!plugged) throw new Refused(-101);
        }

        int kind() {
            return 0;
        }

        int way(int ear) {
            return 0;
        }
    }

    class Bone extends Phone {
        @Override float driven(int ear, int tone, float level) {
            trace(2);
            return super.driven(ear, tone, level) + 15.0f;
        }

        @Override int kind() {
            return 1;
        }

        @Override int way(int ear) {
            return 1;
        }
    }

    class Insert extends Bone {
        @Override float driven(int ear, int tone, float level) {
            trace(3);
            return super.driven(ear, tone, level) - 20.0f;
        }

        @Override int kind() {
            return 2;
        }

        @Override int way(int ear) {
            return 0;
        }
    }

    class Field extends Phone {
        @Override float driven(int ear, int tone, float level) {
            trace(4);
            return own(tone, level) - 3.0f;
        }

        @Override void mask(int ear) {
            throw new Refused(-107);
        }

        @Override int kind() {
            return 3;
        }
    }

    class Pair extends Phone {
        int[] sides;

        @Override float driven(int ear, int tone, float level) {
            trace(5);
            Phone side = devices.get(sides[ear]);
            side.needPlugged();
            return side.driven(ear, tone, level);
        }

        @Override void mask(int ear) {
            needPlugged();
            trace(11);
            devices.get(sides[1 - ear]).mask(ear);
        }

        @Override int kind() {
            return 4;
        }

        @Override int way(int ear) {
            return devices.get(sides[ear]).way(ear);
        }
    }

    static final class Listener {
        int sort;
        List<Integer> script = new ArrayList<>();
        int given;
        int[][] limens = new int[2][24];
        int x;
        int spread;
    }

    static final class Test {
        int device;
        int listener;
        int ear;
        int tone;
        int[] rule = {40, 20, 10, 5, 6, 4, 60, -10, 100, 0, 300};
        int noise = NOTHING;
        int level = 40;
        List<Integer> levels = new ArrayList<>();
        List<Integer> answers = new ArrayList<>();
        List<Integer> turns = new ArrayList<>();
        int ended;
        int beyond;
        int falses;
        int silents;
        int hits;

        Test fresh() {
            Test t = new Test();
            t.device = device;
            t.listener = listener;
            t.ear = ear;
            t.tone = tone;
            t.rule = rule.clone();
            t.noise = noise;
            t.level = rule[0];
            return t;
        }

        int threshold() {
            if (ended != 1) return NOTHING;
            List<Integer> last = new ArrayList<>(turns.subList(turns.size() - rule[5], turns.size()));
            Collections.sort(last);
            return last.get(last.size() / 2);
        }
    }

    static final class Chart {
        double[][][] values = new double[2][2][24];
        boolean[][][] marks = new boolean[2][2][24];
    }

    final List<Phone> devices = new ArrayList<>();
    final List<Listener> listeners = new ArrayList<>();
    final List<Test> tests = new ArrayList<>();
    final List<Chart> charts = new ArrayList<>();
    final List<Integer> traced = new ArrayList<>();
    final int[] found = new int[10];
    int[] plateau = {0, NOTHING, 0, 0, 0};
    int begun;
    int silenced;
    int finding;
    int status;

    void trace(int body) {
        if (traced.size() < 60) traced.add(body);
    }

    static void need(boolean so) {
        if (!so) throw new Refused(BAD);
    }

    static boolean in(int v, int from, int to) {
        return v >= from && v <= to;
    }

    static boolean level(int v) {
        return in(v, -20, 120);
    }

    static void room(List<?> list, int most) {
        if (list.size() >= most) throw new Refused(FULL);
    }

    Phone device(int d) {
        need(in(d, 0, devices.size() - 1));
        return devices.get(d);
    }

    Listener listener(int l) {
        need(in(l, 0, listeners.size() - 1));
        return listeners.get(l);
    }

    Test test(int t) {
        need(in(t, 0, tests.size() - 1));
        return tests.get(t);
    }

    Chart chart(int c) {
        need(in(c, 0, charts.size() - 1));
        return charts.get(c);
    }

    double[] line(int c, int ear, int way) {
        Chart chart = chart(c);
        need(in(ear, 0, 1) && in(way, 0, 1));
        return chart.values[ear][way];
    }

    /** One call by its name; a long answer, refusals and findings kept as the document tells. */
    long call(String name, int[] a, long bits) {
        boolean telling = List.of("status", "finding", "findings", "silent", "trace", "count").contains(name);
        boolean finds = List.of("row", "calibrate", "offset", "drive", "step", "run", "tone", "answer", "turn", "rate",
            "unsure", "plateau", "replay").contains(name);
        if (finds) finding = 0;
        long answer;
        int why = 0;
        try {
            answer = work(name, a, bits);
        } catch (Refused r) {
            why = r.why;
            if (why <= -101 && why >= -109) note(-100 - why);
            boolean wide = List.of("offset", "drive", "at", "mean", "gap").contains(name);
            answer = wide ? Check.NAN : why;
        }
        if (!telling) status = why;
        return answer;
    }

    void note(int f) {
        finding = f;
        found[f]++;
    }

    private long work(String name, int[] a, long bits) {
        switch (name) {
            case "device": case "plug": case "row": case "calibrate": case "offset": case "drive": case "kindOf":
                return ofDevices(name, a);
            case "listener": case "script": case "limen": case "seed": case "listenerOf":
                return ofListeners(name, a);
            case "test": case "rule": case "noise": case "step": case "run": case "told": case "plateau":
            case "plateauOf": case "replay":
                return ofTests(name, a);
            case "tone": case "answer": case "turn": case "threshold": case "rate": case "unsure":
                return ofKept(name, a);
            case "chart": case "enter": case "put": case "at": case "between": case "marked":
                return ofCharts(name, a, bits);
            case "mean": case "lacking": case "gap": case "change": case "compare": case "order":
                return ofValues(name, a);
            default:
                return ofTelling(name, a);
        }
    }

    private long ofDevices(String name, int[] a) {
        if (name.equals("device")) {
            need(in(a[0], 0, 4));
            if (a[0] == 4) need(device(a[1]).kind() != 4 && device(a[2]).kind() != 4);
            room(devices, 24);
            Phone made = a[0] == 0 ? new Phone() : a[0] == 1 ? new Bone() : a[0] == 2 ? new Insert()
                : a[0] == 3 ? new Field() : new Pair();
            if (made instanceof Pair) ((Pair) made).sides = new int[] {a[1], a[2]};
            devices.add(made);
            return devices.size() - 1;
        }
        Phone d = device(a[0]);
        Pair pair = d instanceof Pair ? (Pair) d : null;
        switch (name) {
            case "plug": {
                boolean was = d.plugged;
                d.plugged = a[1] != 0;
                return was == d.plugged ? 0 : 1;
            }
            case "row":
                need(in(a[1], -1, 24));
                if (pair != null) throw new Refused(-107);
                d.row = a[1] < 0 ? null : new float[a[1]];
                return 1;
            case "calibrate": case "offset":
                need(in(a[1], 0, 23));
                if (pair != null) throw new Refused(-107);
                if (d.row == null) throw new Refused(-102);
                if (a[1] >= d.row.length) throw new Refused(-103);
                if (name.equals("offset")) return Double.doubleToLongBits((double) d.row[a[1]]);
                d.row[a[1]] = (float) a[2] / (float) a[3];
                return 1;
            case "drive": {
                need(in(a[1], 0, 1) && in(a[2], 0, 23) && level(a[3]));
                traced.clear();
                return Double.doubleToLongBits((double) drive(d, a[1], a[2], a[3]));
            }
            default: {
                need(in(a[1], 0, 5));
                int[] told = {d.kind(), d.plugged ? 1 : 0, d.row == null ? NOTHING : d.row.length,
                    pair != null ? 0 : d.way(0), pair == null ? NOTHING : pair.sides[0],
                    pair == null ? NOTHING : pair.sides[1]};
                return told[a[1]];
            }
        }
    }

    private float drive(Phone d, int ear, int tone, int level) {
        d.needPlugged();
        float loud = d.driven(ear, tone, (float) level);
        if (loud > 110.0f) throw new Refused(-106);
        return loud;
    }

    private long ofListeners(String name, int[] a) {
        if (name.equals("listener")) {
            need(in(a[0], 0, 1));
            room(listeners, 40);
            Listener l = new Listener();
            l.sort = a[0];
            for (int[] row : l.limens) Arrays.fill(row, NOTHING);
            listeners.add(l);
            return listeners.size() - 1;
        }
        Listener l = listener(a[0]);
        switch (name) {
            case "script":
                need(l.sort == 0 && in(a[2], 1, 31));
                if (l.script.size() + a[2] > 200) throw new Refused(FULL);
                for (int i = 0; i < a[2]; i++) l.script.add(a[1] >> i & 1);
                return l.script.size();
            case "limen": {
                need(l.sort == 1 && in(a[1], 0, 1) && in(a[2], 0, 23) && (level(a[3]) || a[3] == NOTHING));
                int was = l.limens[a[1]][a[2]];
                l.limens[a[1]][a[2]] = a[3];
                return was;
            }
            case "seed":
                need(l.sort == 1 && in(a[2], 0, 20));
                l.x = a[1];
                l.spread = a[2];
                return 1;
            default:
                need(in(a[1], 0, 2));
                return new int[] {l.sort, l.script.size(), l.given}[a[1]];
        }
    }

    private int hear(Listener l, boolean quiet, Test t) {
        if (l.sort == 0) {
            if (l.given >= l.script.size()) throw new Refused(-108);
            return l.script.get(l.given++);
        }
        l.given++;
        l.x = l.x * 1103515245 + 12345;
        int luck = (l.x >>> 16) % (2 * l.spread + 1) - l.spread;
        if (quiet) return luck > 15 ? 1 : 0;
        int h = t.level + luck;
        int own = l.limens[t.ear][t.tone];
        int other = l.limens[1 - t.ear][t.tone];
        boolean here = own != NOTHING && !(h < own) && (t.noise == NOTHING || !(h < t.noise - 50));
        boolean there = other != NOTHING && !(h - 40 < other) && (t.noise == NOTHING || !(h - 40 < t.noise));
        return here || there ? 1 : 0;
    }

    private int step(Test t, Listener l) {
        begun++;
        try {
            int k = t.levels.size() + 1;
            boolean quiet = t.rule[9] > 0 && k % t.rule[9] == 0;
            if (!quiet && t.noise != NOTHING) devices.get(t.device).mask(t.ear);
            if (!quiet) drive(devices.get(t.device), t.ear, t.tone, t.level);
            int yes = hear(l, quiet, t);
            if (quiet) {
                t.silents++;
                t.falses += yes;
            } else {
                move(t, yes);
            }
            if (quiet) t.levels.add(NOTHING);
            t.answers.add(yes);
            end(t, yes);
            return yes;
        } finally {
            silenced++;
        }
    }

    private void move(Test t, int yes) {
        int before = -1;
        for (int i = 0; i < t.levels.size(); i++) if (t.levels.get(i) != NOTHING) before = t.answers.get(i);
        if (before == 1 - yes) t.turns.add(t.level);
        t.levels.add(t.level);
        t.hits = t.level == t.rule[yes == 1 ? 7 : 8] ? t.hits + 1 : 0;
        int by = t.turns.isEmpty() ? t.rule[1] : t.rule[yes == 1 ? 2 : 3];
        t.level += yes == 1 ? -by : by;
        if (t.level < t.rule[7]) t.level = t.rule[7];
        if (t.level > t.rule[8]) t.level = t.rule[8];
    }

    private void end(Test t, int yes) {
        if (t.turns.size() == t.rule[4]) t.ended = 1;
        else if (t.hits == 2) {
            t.ended = 2;
            t.beyond = yes == 1 ? -1 : 1;
        } else if (t.levels.size() == t.rule[6]) t.ended = 3;
    }

    private long ofTests(String name, int[] a) {
        if (name.equals("plateauOf")) {
            need(in(a[0], 0, 4));
            return plateau[a[0]];
        }
        if (name.equals("test")) {
            device(a[0]);
            listener(a[1]);
            need(in(a[2], 0, 1) && in(a[3], 0, 23));
            room(tests, 60);
            Test t = new Test();
            t.device = a[0];
            t.listener = a[1];
            t.ear = a[2];
            t.tone = a[3];
            tests.add(t);
            return tests.size() - 1;
        }
        Test t = test(a[0]);
        switch (name) {
            case "rule": return rule(t, a[1], a[2]);
            case "noise": {
                need(level(a[1]) || a[1] == NOTHING);
                if (t.ended != 0) throw new Refused(STATE);
                int was = t.noise;
                t.noise = a[1];
                return was;
            }
            case "step":
                if (t.ended != 0) throw new Refused(STATE);
                traced.clear();
                return step(t, listeners.get(t.listener));
            case "run": return run(t, a[1]);
            case "told": {
                need(in(a[1], 0, 12));
                int[] told = {t.level, t.levels.size(), t.turns.size(), t.ended, t.beyond, t.falses, t.silents,
                    t.noise, t.hits, t.device, t.listener, t.ear, t.tone};
                return told[a[1]];
            }
            case "plateau": return seek(t, a);
            default: return replay(t);
        }
    }

    private int rule(Test t, int what, int v) {
        need(in(what, 0, 10));
        int[] then = t.rule.clone();
        then[what] = v;
        need(level(then[0]) && level(then[7]) && level(then[8]) && then[7] <= then[0] && then[0] <= then[8]);
        need(in(then[1], 0, 60) && in(then[2], 0, 60) && in(then[3], 0, 60));
        need(in(then[4], 1, 20) && in(then[5], 1, 20) && then[5] <= then[4] && in(then[6], 1, 200));
        need((then[9] == 0 || in(then[9], 2, 20)) && in(then[10], 0, 1000));
        if (!t.levels.isEmpty()) throw new Refused(STATE);
        int was = t.rule[what];
        t.rule = then;
        t.level = then[0];
        return was;
    }

    private int run(Test t, int n) {
        need(in(n, 0, 200));
        if (t.ended != 0) throw new Refused(STATE);
        traced.clear();
        int done = 0;
        try {
            while (done < n && t.ended == 0) {
                step(t, listeners.get(t.listener));
                done++;
            }
        } catch (Refused r) {
            note(-100 - r.why);
        }
        return done;
    }

    private int seek(Test t, int[] a) {
        need(level(a[1]) && in(a[2], 1, 40) && in(a[3], 1, 12) && in(a[4], 2, a[3]) && in(a[5], 0, 60));
        if (!t.levels.isEmpty()) throw new Refused(STATE);
        traced.clear();
        plateau = new int[] {0, NOTHING, 0, 0, 0};
        List<Integer> all = new ArrayList<>();
        for (int noise = a[1]; noise <= 120 && all.size() < a[3]; noise += a[2]) {
            Test own = t.fresh();
            own.noise = noise;
            plateau[1] = noise;
            plateau[2]++;
            try {
                while (own.ended == 0) step(own, listeners.get(t.listener));
            } catch (Refused r) {
                plateau[4] = -100 - r.why;
                note(-100 - r.why);
            }
            plateau[3] += own.levels.size();
            if (plateau[4] != 0) return NOTHING;
            all.add(own.threshold());
            if (all.size() < a[4]) continue;
            List<Integer> last = all.subList(all.size() - a[4], all.size());
            if (last.contains(NOTHING) || Collections.max(last) - Collections.min(last) > a[5]) continue;
            plateau[0] = 1;
            return own.threshold();
        }
        return NOTHING;
    }

    private int replay(Test t) {
        if (t.levels.isEmpty()) throw new Refused(STATE);
        traced.clear();
        Listener by = new Listener();
        by.script.addAll(t.answers);
        Test again = t.fresh();
        for (int i = 0; i < t.levels.size(); i++) step(again, by);
        return again.levels.equals(t.levels) && again.turns.equals(t.turns) && again.ended == t.ended
            && again.threshold() == t.threshold() ? 1 : 0;
    }

    private long ofKept(String name, int[] a) {
        Test t = test(a[0]);
        switch (name) {
            case "tone": case "answer": case "turn": {
                List<Integer> of = name.equals("tone") ? t.levels : name.equals("answer") ? t.answers : t.turns;
                if (!in(a[1], 0, of.size() - 1)) throw new Refused(-108);
                return of.get(a[1]);
            }
            case "threshold":
                return t.threshold();
            default: {
                if (t.silents == 0) throw new Refused(-109);
                int rate = t.falses * 1000 / t.silents;
                return name.equals("rate") ? rate : rate > t.rule[10] ? 1 : 0;
            }
        }
    }

    private long ofCharts(String name, int[] a, long bits) {
        if (name.equals("chart")) {
            room(charts, 20);
            Chart made = new Chart();
            for (double[][] ear : made.values) for (double[] way : ear) Arrays.fill(way, Double.NaN);
            charts.add(made);
            return charts.size() - 1;
        }
        if (name.equals("enter")) {
            Chart c = chart(a[0]);
            Test t = test(a[1]);
            if (t.ended == 0) throw new Refused(STATE);
            int way = devices.get(t.device).way(t.ear);
            boolean none = t.threshold() == NOTHING;
            c.values[t.ear][way][t.tone] = none ? Double.NaN : t.threshold();
            c.marks[t.ear][way][t.tone] = false;
            return none ? 0 : 1;
        }
        double[] line = line(a[0], a[1], a[2]);
        boolean[] marks = charts.get(a[0]).marks[a[1]][a[2]];
        need(in(a[3], 0, 23));
        switch (name) {
            case "put": {
                double v = Double.longBitsToDouble(bits);
                need(Double.isNaN(v) || Math.abs(v) <= 1000.0);
                line[a[3]] = v;
                marks[a[3]] = false;
                return 1;
            }
            case "at": return Double.doubleToLongBits(line[a[3]]);
            case "between": return between(line, marks, a[3]);
            default: return marks[a[3]] ? 1 : 0;
        }
    }

    private int between(double[] line, boolean[] marks, int tone) {
        if (!Double.isNaN(line[tone])) return 0;
        int t = tone - 1;
        while (t >= 0 && (Double.isNaN(line[t]) || marks[t])) t--;
        int u = tone + 1;
        while (u < 24 && (Double.isNaN(line[u]) || marks[u])) u++;
        if (t < 0 || u > 23) return NOTHING;
        line[tone] = line[t] + (line[u] - line[t]) * (tone - t) / (u - t);
        marks[tone] = true;
        return 1;
    }

    private long ofValues(String name, int[] a) {
        if (name.equals("gap")) {
            Chart c = chart(a[0]);
            need(in(a[1], 0, 1) && in(a[2], 0, 23));
            return Double.doubleToLongBits(c.values[a[1]][0][a[2]] - c.values[a[1]][1][a[2]]);
        }
        if (name.equals("change")) {
            double[] earlier = line(a[1], a[2], a[3]);
            double[] line = line(a[0], a[2], a[3]);
            need(in(a[4], 0, 23) && in(a[5], 0, 1000));
            double far = Math.abs(line[a[4]] - earlier[a[4]]);
            return Double.isNaN(far) ? NOTHING : far > a[5] ? 1 : 0;
        }
        double[] line = line(a[0], a[1], a[2]);
        switch (name) {
            case "mean": case "lacking": {
                double sum = 0.0;
                int many = 0;
                int none = 0;
                for (int t = 0; t < 24; t++) {
                    if ((a[3] >> t & 1) == 0) continue;
                    if (Double.isNaN(line[t])) none++;
                    else {
                        sum += line[t];
                        many++;
                    }
                }
                if (name.equals("lacking")) return none;
                return many == 0 ? Check.NAN : Double.doubleToLongBits(sum / many);
            }
            case "compare":
                need(in(a[3], 0, 23) && in(a[4], 0, 23));
                if (Double.isNaN(line[a[3]]) || Double.isNaN(line[a[4]])) return NOTHING;
                return line[a[3]] < line[a[4]] ? -1 : line[a[3]] > line[a[4]] ? 1 : 0;
            default: {
                need(in(a[3], 0, 23));
                List<Integer> tones = new ArrayList<>();
                for (int t = 0; t < 24; t++) tones.add(t);
                // adding 0.0 makes one zero of both, and compare puts what is no number last
                tones.sort((t, u) -> Double.compare(line[t] + 0.0, line[u] + 0.0));
                return tones.get(a[3]);
            }
        }
    }

    private long ofTelling(String name, int[] a) {
        switch (name) {
            case "silent":
                need(in(a[0], 0, 2));
                return new int[] {begun, silenced, begun - silenced}[a[0]];
            case "findings":
                need(in(a[0], 1, 9));
                return found[a[0]];
            case "finding": return finding;
            case "trace": return in(a[0], 0, traced.size() - 1) ? traced.get(a[0]) : NOTHING;
            case "count":
                need(in(a[0], 0, 3));
                return new int[] {devices.size(), listeners.size(), tests.size(), charts.size()}[a[0]];
            case "status": return status;
            default: {
                long h = 17;
                for (Test t : tests) {
                    for (int i = 0; i < t.levels.size(); i++) h = 31 * (31 * h + t.levels.get(i)) + t.answers.get(i);
                    h = 31 * h + t.ended;
                }
                for (Chart c : charts) for (double[][] ear : c.values) for (double[] way : ear) {
                    for (double v : way) h = 31 * h + Double.doubleToLongBits(v);
                }
                return h;
            }
        }
    }
}
