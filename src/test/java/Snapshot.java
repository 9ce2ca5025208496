import java.util.ArrayList;
import java.util.List;

/**
 * All that can be asked of a room, in parts. Each part spends the room that it is asked of, since some things
 * show only when they are changed, and since a room stands for no more than 512 calls.
 */
final class Snapshot {
    static final int FINDINGS = 0, SILENT = 1, TRACE = 2, COUNTS = 3, DEVICES = 4, LISTENERS = 5, TESTS = 6;
    static final int RULES = 7, CHARTS = 8, GOING_ON = 9, PARTS = 10;
    /** Rooms with more of a thing than this are asked less of each, for the sake of the 512 calls. */
    private static final int FEW = 6;

    private final HearingRoom x;
    private final List<Long> told = new ArrayList<>();

    private Snapshot(HearingRoom x) {
        this.x = x;
    }

    static List<Long> of(HearingRoom x, int part) {
        Snapshot s = new Snapshot(x);
        switch (part) {
            case FINDINGS: s.askFindings(); break;
            case SILENT: for (int what = 0; what < 3; what++) s.keep(x.silent(what)); break;
            case TRACE: for (int k = 0; k < 61; k++) s.keep(x.trace(k)); break;
            case COUNTS: s.askCounts(); break;
            case DEVICES: s.askDevices(); break;
            case LISTENERS: s.askListeners(); break;
            case TESTS: s.askTests(); break;
            case RULES: s.askRules(); break;
            case CHARTS: s.askCharts(); break;
            default: s.goOn(); break;
        }
        return s.told;
    }

    private void keep(long answer) {
        told.add(answer);
    }

    private void askFindings() {
        for (int f = 1; f <= 9; f++) keep(x.findings(f));
    }

    private void askCounts() {
        for (int what = 0; what < 4; what++) keep(x.count(what));
        for (int what = 0; what < 5; what++) keep(x.plateauOf(what));
    }

    private void askDevices() {
        int many = x.count(0);
        for (int d = 0; d < many; d++) {
            for (int what = 0; what < 6; what++) keep(x.kindOf(d, what));
            for (int tone = 0; tone < 24; tone += many > FEW ? 23 : 1) {
                keep(x.offset(d, tone));
                keep(x.status());
            }
        }
    }

    private void askListeners() {
        int many = x.count(1);
        for (int l = 0; l < many; l++) {
            for (int what = 0; what < 3; what++) keep(x.listenerOf(l, what));
            for (int place = 0; place < 48; place += many > FEW ? 47 : 1) {
                keep(x.limen(l, place / 24, place % 24, -1000));
            }
        }
    }

    private void askTests() {
        int many = x.count(2);
        for (int t = 0; t < many; t++) {
            for (int what = 0; what < 13; what += many > FEW ? 4 : 1) keep(x.told(t, what));
            if (many > FEW) continue;
            keep(x.threshold(t));
            keep(x.rate(t));
            keep(x.unsure(t));
            for (int k = 0; k < 10; k++) {
                keep(x.tone(t, k));
                keep(x.answer(t, k));
                keep(x.turn(t, k));
            }
        }
        keep(x.digest());
    }

    private void askRules() {
        int[] what = {7, 8, 0, 5, 4, 1, 2, 3, 6, 9, 10};
        int[] v = {-20, 120, 0, 1, 20, 0, 0, 0, 1, 0, 0};
        int many = x.count(2);
        for (int t = 0; t < many; t++) {
            for (int i = 0; i < what.length; i += many > FEW ? 5 : 1) keep(x.rule(t, what[i], v[i]));
        }
    }

    private void askCharts() {
        keep(x.digest());
        int many = x.count(3);
        for (int c = 0; c < many; c++) {
            for (int place = 0; place < 96; place += many > FEW ? 19 : 1) {
                keep(x.marked(c, place / 48, place / 24 % 2, place % 24));
            }
        }
    }

    /** What is not told, seeds and scripts and rules of tests that began, shows in the answers to come. */
    private void goOn() {
        int tests = x.count(2);
        for (int t = 0; t < tests; t++) {
            if (tests <= FEW || t % 10 == 0) keep(x.run(t, 200));
            if (tests <= FEW) for (int what = 0; what < 9; what++) keep(x.told(t, what));
        }
        for (int l = 0; l < x.count(1) && l < FEW; l++) {
            int t = x.test(0, l, 0, 5);
            keep(t);
            keep(x.rule(t, 9, 2));
            keep(x.run(t, 60));
        }
        keep(x.replay(1));
        keep(x.finding());
        keep(x.digest());
    }
}
