/** Promises 14 to 25. */
public final class TestsTest {
    private static final int NOTHING = -1000, FULL = -1002, STATE = -1003;
    private static final Check c = new Check("TestsTest");

    public static void main(String[] args) {
        promise14Test();
        promise15Rule();
        promise15Order();
        promise16Noise();
        promise17Step();
        promise17Findings();
        promise17Masking();
        promise17Ends();
        promise18Run();
        promise19Told();
        promise20To22Kept();
        promise23Threshold();
        promise24And25Rate();
        c.end();
    }

    private static void promise14Test() {
        HearingRoom x = new HearingRoom();
        x.device(0, 0, 0);
        x.listener(0);
        c.dueBad(x, "device 1", x.test(1, 0, 0, 0));
        c.dueBad(x, "device -1", x.test(-1, 0, 0, 0));
        c.dueBad(x, "listener 1", x.test(0, 1, 0, 0));
        c.dueBad(x, "listener -1", x.test(0, -1, 0, 0));
        c.dueBad(x, "ear 2", x.test(0, 0, 2, 0));
        c.dueBad(x, "ear -1", x.test(0, 0, -1, 0));
        c.dueBad(x, "tone 24", x.test(0, 0, 0, 24));
        c.dueBad(x, "tone -1", x.test(0, 0, 0, -1));
        for (int i = 0; i < 60; i++) c.due("test " + i, x.test(0, 0, i & 1, i % 24), i);
        c.dueRefused(x, "test 60", x.test(0, 0, 0, 0), FULL);
        c.dueBad(x, "BAD ahead of FULL", x.test(0, 0, 0, 24));
        c.due("count(2)", x.count(2), 60);
    }

    private static void promise15Rule() {
        HearingRoom x = new HearingRoom();
        int t = Rooms.recited(x, "1");
        int[] usual = {40, 20, 10, 5, 6, 4, 60, -10, 100, 0, 300};
        int[] least = {-10, 0, 0, 0, 4, 1, 1, -20, 40, 0, 0};
        int[] greatest = {100, 60, 60, 60, 20, 6, 200, 40, 120, 20, 1000};
        for (int what = 0; what <= 10; what++) {
            c.dueBad(x, "rule " + what + " too small", x.rule(t, what, least[what] - 1));
            c.dueBad(x, "rule " + what + " too great", x.rule(t, what, greatest[what] + 1));
            c.due("rule " + what + " least", x.rule(t, what, least[what]), usual[what]);
            c.due("rule " + what + " greatest", x.rule(t, what, greatest[what]), least[what]);
            c.due("rule " + what + " usual", x.rule(t, what, usual[what]), greatest[what]);
            c.due("status()", x.status(), 0);
        }
        c.dueBad(x, "CATCH 1", x.rule(t, 9, 1));
        c.due("CATCH 2", x.rule(t, 9, 2), 0);
        c.dueBad(x, "what -1", x.rule(t, -1, 5));
        c.dueBad(x, "what 11", x.rule(t, 11, 5));
        c.dueBad(x, "test 1", x.rule(t + 1, 1, 5));
        c.dueBad(x, "test -1", x.rule(-1, 1, 5));
        x.step(t);
        c.dueRefused(x, "STATE", x.rule(t, 1, 5), STATE);
        c.dueBad(x, "BAD ahead of STATE", x.rule(t, 1, 61));
        HearingRoom y = new HearingRoom();
        int never = Rooms.recited(y, "");
        y.step(never);
        c.due("a finding answers no tone", y.rule(never, 1, 5), 20);
    }

    private static void promise15Order() {
        HearingRoom x = new HearingRoom();
        int t = Rooms.recited(x, "1");
        x.rule(t, 8, 120);
        c.dueBad(x, "START 121", x.rule(t, 0, 121));
        x.rule(t, 7, -20);
        c.dueBad(x, "START -21", x.rule(t, 0, -21));
        c.dueBad(x, "LOW -21", x.rule(t, 7, -21));
        c.dueBad(x, "HIGH 121", x.rule(t, 8, 121));
        c.due("START 120", x.rule(t, 0, 120), 40);
        c.due("the level goes with it", x.told(t, 0), 120);
        c.due("START -20", x.rule(t, 0, -20), 120);
        c.due("HIGH -20: all the same", x.rule(t, 8, -20), 120);
        c.dueBad(x, "START -19", x.rule(t, 0, -19));
        c.dueBad(x, "LOW -19", x.rule(t, 7, -19));
        c.due("LAST 6, as TURNS", x.rule(t, 5, 6), 4);
        c.dueBad(x, "LAST 7", x.rule(t, 5, 7));
        c.dueBad(x, "TURNS 5", x.rule(t, 4, 5));
        c.due("TURNS 20", x.rule(t, 4, 20), 6);
        c.due("LAST 20", x.rule(t, 5, 20), 6);
        c.dueBad(x, "TURNS 21", x.rule(t, 4, 21));
        c.dueBad(x, "LAST 21", x.rule(t, 5, 21));
        c.dueBad(x, "LAST 0", x.rule(t, 5, 0));
    }

    private static void promise16Noise() {
        HearingRoom x = new HearingRoom();
        int t = Rooms.recited(x, "0101010101");
        c.dueBad(x, "121", x.noise(t, 121));
        c.dueBad(x, "-21", x.noise(t, -21));
        c.dueBad(x, "-999", x.noise(t, -999));
        c.dueBad(x, "test 1", x.noise(t + 1, 20));
        c.due("noise 120", x.noise(t, 120), NOTHING);
        c.due("noise -20", x.noise(t, -20), 120);
        x.step(t);
        c.due("also when it began", x.noise(t, 0), -20);
        c.due("told", x.told(t, 7), 0);
        c.due("NOTHING", x.noise(t, NOTHING), 0);
        x.run(t, 200);
        c.due("ENDED", x.told(t, 3), 1);
        c.dueRefused(x, "STATE", x.noise(t, 30), STATE);
        c.dueBad(x, "BAD ahead of STATE", x.noise(t, 130));
        c.due("told", x.told(t, 7), NOTHING);
    }

    private static void promise17Step() {
        HearingRoom x = new HearingRoom();
        int t = Rooms.recited(x, "1100110");
        x.rule(t, 2, 7);
        x.rule(t, 3, 3);
        int[] levels = {40, 20, 0, 3, 6, -1, -8};
        int[] answers = {1, 1, 0, 0, 1, 1, 0};
        for (int k = 0; k < 7; k++) {
            c.due("level ahead of " + k, x.told(t, 0), levels[k]);
            c.due("step " + k, x.step(t), answers[k]);
            c.due("status()", x.status(), 0);
            c.dueTrace(x, "step " + k, 1);
        }
        c.due("level in the end", x.told(t, 0), -5);
        c.due("turns", x.told(t, 2), 3);
        c.due("turn 0", x.turn(t, 0), 0);
        c.due("turn 1", x.turn(t, 1), 6);
        c.due("turn 2", x.turn(t, 2), -8);
        c.dueBad(x, "step(1)", x.step(1));
        c.dueBad(x, "step(-1)", x.step(-1));
        c.due("finding()", x.finding(), 0);
    }

    private static void promise17Findings() {
        HearingRoom x = new HearingRoom();
        int d = x.device(1, 0, 0);
        x.listener(1);
        x.limen(0, 0, 2, 20);
        x.seed(0, 9, 5);
        int t = x.test(d, 0, 0, 2);
        c.dueFinding(x, "UNPLUGGED", x.step(t), 1);
        c.dueTrace(x, "UNPLUGGED");
        x.plug(d, true);
        c.dueFinding(x, "LACKING", x.step(t), 2);
        c.dueTrace(x, "LACKING", 2, 1);
        x.row(d, 2);
        c.dueFinding(x, "SHORT", x.step(t), 3);
        x.row(d, 3);
        x.calibrate(d, 2, 0, 0);
        c.dueFinding(x, "NOUGHT", x.step(t), 4);
        x.calibrate(d, 2, 3, 0);
        c.dueFinding(x, "ENDLESS", x.step(t), 5);
        x.calibrate(d, 2, 56, 1);
        c.dueFinding(x, "LOUD", x.step(t), 6);
        c.due("begun", x.silent(0), 6);
        c.due("silenced", x.silent(1), 6);
        c.due("sounding", x.silent(2), 0);
        c.due("nobody answered", x.listenerOf(0, 2), 0);
        c.due("no tone", x.told(t, 1), 0);
        c.due("level", x.told(t, 0), 40);
        c.due("digest()", x.digest(), 17 * 31);
        x.calibrate(d, 2, 55, 1);
        c.due("110.0", x.step(t), 1);
    }

    private static void promise17Masking() {
        for (int kind = 0; kind < 4; kind++) {
            HearingRoom x = new HearingRoom();
            int d = x.device(kind, 0, 0);
            x.row(d, 24);
            int t = x.test(d, Rooms.reciter(x, "1111"), 0, 0);
            x.noise(t, 30);
            c.dueFinding(x, "not plugged in", x.step(t), kind == 3 ? 7 : 1);
            c.dueTrace(x, "not plugged in");
            x.plug(d, true);
            if (kind == 3) {
                c.dueFinding(x, "UNFIT", x.step(t), 7);
                c.dueTrace(x, "UNFIT");
            } else {
                c.due("step", x.step(t), 1);
                c.dueTrace(x, "step", kind == 0 ? new int[] {10, 1} : kind == 1 ? new int[] {10, 2, 1}
                    : new int[] {10, 3, 2, 1});
            }
        }
        HearingRoom x = new HearingRoom();
        int bone = x.device(1, 0, 0);
        int field = Rooms.ready(x, 3);
        int pair = x.device(4, bone, field);
        int left = x.test(pair, Rooms.reciter(x, "1111"), 1, 0);
        x.noise(left, 30);
        int right = x.test(pair, 0, 0, 0);
        x.noise(right, 30);
        c.dueFinding(x, "the pair is UNPLUGGED ahead of its field", x.step(right), 1);
        c.dueTrace(x, "pair UNPLUGGED");
        x.plug(pair, true);
        c.dueFinding(x, "its field is UNFIT", x.step(right), 7);
        c.dueTrace(x, "UNFIT", 11);
        c.dueFinding(x, "its bone is UNPLUGGED", x.step(left), 1);
        c.dueTrace(x, "bone UNPLUGGED", 11);
        x.plug(bone, true);
        c.due("masks by the bone", x.step(left), 1);
        c.dueTrace(x, "masks by the bone", 11, 10, 5, 4);
        x.plug(field, false);
        c.dueFinding(x, "masked, then not driven", x.step(left), 1);
        c.dueTrace(x, "masked, then not driven", 11, 10, 5);
        x.rule(right, 9, 2);
        x.noise(right, NOTHING);
        x.row(bone, 24);
        c.due("bone without noise", x.step(right), 1);
        x.plug(bone, false);
        x.noise(right, 30);
        c.due("a silent one is neither masked nor driven", x.step(right), 1);
        c.dueTrace(x, "silent");
        c.due("it is FALSE", x.told(right, 5), 1);
        c.due("its level", x.tone(right, 1), NOTHING);
        c.dueFinding(x, "the next one is masked", x.step(right), 7);
    }

    private static void promise17Ends() {
        HearingRoom x = new HearingRoom();
        int low = Rooms.recited(x, "111110");
        x.rule(low, 1, 60);
        c.due("run to LOW", x.run(low, 3), 3);
        c.due("by hits", x.told(low, 3), 2);
        c.due("BEYOND", x.told(low, 4), -1);
        c.due("HITS", x.told(low, 8), 2);
        c.dueRefused(x, "STATE", x.step(low), STATE);
        c.due("finding()", x.finding(), 0);
        HearingRoom y = new HearingRoom();
        int high = Rooms.recited(y, "000000");
        c.due("run to HIGH", y.run(high, 200), 5);
        c.due("by hits", y.told(high, 3), 2);
        c.due("BEYOND", y.told(high, 4), 1);
        HearingRoom z = new HearingRoom();
        int most = Rooms.recited(z, "1111");
        z.rule(most, 1, 0);
        z.rule(most, 6, 3);
        c.due("run to MOST", z.run(most, 200), 3);
        c.due("by MOST", z.told(most, 3), 3);
        c.due("BEYOND", z.told(most, 4), 0);
        c.due("level", z.told(most, 0), 40);
        HearingRoom u = new HearingRoom();
        int narrow = Rooms.recited(u, "10");
        u.rule(narrow, 7, 40);
        u.rule(narrow, 8, 40);
        u.rule(narrow, 6, 2);
        c.due("LOW is HIGH", u.run(narrow, 200), 2);
        c.due("hits ahead of MOST", u.told(narrow, 3), 2);
        c.due("the second one was no", u.told(narrow, 4), 1);
        HearingRoom v = new HearingRoom();
        int both = Rooms.recited(v, "10");
        v.rule(both, 7, 40);
        v.rule(both, 8, 40);
        v.rule(both, 5, 1);
        v.rule(both, 4, 1);
        c.due("turns ahead of hits", v.run(both, 200), 2);
        c.due("by turns", v.told(both, 3), 1);
        c.due("BEYOND", v.told(both, 4), 0);
        hitsAreSetBack();
    }

    private static void hitsAreSetBack() {
        HearingRoom x = new HearingRoom();
        int t = Rooms.recited(x, "111" + "0" + "11" + "11");
        x.rule(t, 1, 60);
        x.rule(t, 2, 5);
        x.rule(t, 9, 4);
        x.rule(t, 0, 50);
        x.step(t);
        c.due("at LOW", x.told(t, 0), -10);
        x.step(t);
        c.due("one hit", x.told(t, 8), 1);
        HearingRoom y = new HearingRoom();
        int s = Rooms.recited(y, "11" + "0" + "11" + "1");
        y.rule(s, 1, 50);
        y.rule(s, 9, 6);
        y.run(s, 2);
        c.due("a hit at LOW", y.told(s, 8), 1);
        y.step(s);
        c.due("no at LOW sets back", y.told(s, 8), 0);
        y.step(s);
        c.due("yes above LOW is none", y.told(s, 8), 0);
        y.step(s);
        c.due("a hit again", y.told(s, 8), 1);
        y.step(s);
        c.due("a silent one leaves HITS", y.told(s, 8), 1);
        c.due("not ENDED", y.told(s, 3), 0);
        Rooms.tell(y, 0, "1");
        y.step(s);
        c.due("two hits running", y.told(s, 3), 2);
    }

    private static void promise18Run() {
        HearingRoom x = new HearingRoom();
        int t = Rooms.recited(x, "010");
        c.dueBad(x, "run(t, -1)", x.run(t, -1));
        c.dueBad(x, "run(t, 201)", x.run(t, 201));
        c.dueBad(x, "run(1, 1)", x.run(t + 1, 1));
        x.drive(0, 0, 0, 0);
        c.due("run(t, 0)", x.run(t, 0), 0);
        c.dueTrace(x, "run(t, 0)");
        c.due("run(t, 2)", x.run(t, 2), 2);
        c.dueTrace(x, "run(t, 2)", 1, 1);
        c.due("run to UNREADY", x.run(t, 200), 1);
        c.due("status()", x.status(), 0);
        c.due("finding()", x.finding(), 8);
        c.due("findings(8)", x.findings(8), 1);
        c.dueTrace(x, "run to UNREADY", 1, 1);
        c.due("begun", x.silent(0), 4);
        c.due("silenced", x.silent(1), 4);
        Rooms.tell(x, 0, "1010");
        c.due("run to the end", x.run(t, 200), 4);
        c.due("finding()", x.finding(), 0);
        c.dueRefused(x, "STATE", x.run(t, 0), STATE);
        c.dueBad(x, "BAD ahead of STATE", x.run(t, 201));
        c.dueTrace(x, "BAD and STATE leave TRACE", 1, 1, 1, 1);
    }

    private static void promise19Told() {
        HearingRoom x = new HearingRoom();
        Rooms.ready(x, 0);
        int d = Rooms.ready(x, 2);
        x.listener(1);
        int l = Rooms.reciter(x, "10110");
        x.test(0, 0, 0, 0);
        int t = x.test(d, l, 1, 17);
        x.noise(t, 15);
        x.rule(t, 9, 3);
        long[] first = {40, 0, 0, 0, 0, 0, 0, 15, 0, d, l, 1, 17};
        for (int what = 0; what <= 12; what++) c.due("told " + what, x.told(t, what), first[what]);
        x.run(t, 4);
        long[] then = {15, 4, 2, 0, 0, 1, 1, 15, 0, d, l, 1, 17};
        for (int what = 0; what <= 12; what++) c.due("told then " + what, x.told(t, what), then[what]);
        c.dueBad(x, "told(t, 13)", x.told(t, 13));
        c.dueBad(x, "told(t, -1)", x.told(t, -1));
        c.dueBad(x, "told(2, 0)", x.told(2, 0));
        c.dueBad(x, "told(-1, 0)", x.told(-1, 0));
    }

    private static void promise20To22Kept() {
        HearingRoom x = new HearingRoom();
        int t = Rooms.recited(x, "1011");
        x.rule(t, 9, 3);
        c.dueFinding(x, "tone 0 yet", x.tone(t, 0), 8);
        c.dueFinding(x, "answer 0 yet", x.answer(t, 0), 8);
        c.dueFinding(x, "turn 0 yet", x.turn(t, 0), 8);
        x.run(t, 4);
        int[] levels = {40, 20, NOTHING, 25};
        int[] answers = {1, 0, 1, 1};
        for (int k = 0; k < 4; k++) {
            c.due("tone " + k, x.tone(t, k), levels[k]);
            c.due("status()", x.status(), 0);
            c.due("answer " + k, x.answer(t, k), answers[k]);
        }
        c.due("turn 0", x.turn(t, 0), 20);
        c.due("turn 1", x.turn(t, 1), 25);
        c.due("finding()", x.finding(), 0);
        int[] none = {-1, 4, Integer.MAX_VALUE, Integer.MIN_VALUE};
        for (int k : none) {
            c.dueFinding(x, "tone " + k, x.tone(t, k), 8);
            c.dueFinding(x, "answer " + k, x.answer(t, k), 8);
            c.dueFinding(x, "turn " + k, x.turn(t, k), 8);
        }
        c.dueFinding(x, "turn 2", x.turn(t, 2), 8);
        c.dueBad(x, "tone of no test", x.tone(1, 0));
        c.dueBad(x, "answer of no test", x.answer(1, 0));
        c.dueBad(x, "turn of no test", x.turn(-1, 0));
        c.due("finding()", x.finding(), 0);
        c.due("findings(8)", x.findings(8), 3 + 12 + 1);
    }

    /** Turns by the answers 1 0 1 0 ..; FIRST, DOWN, UP tell where they are. */
    private static int thresholdAfter(int turns, int last, int down, int up) {
        HearingRoom x = new HearingRoom();
        int t = Rooms.recited(x, "1010101010101010101010");
        x.rule(t, 4, 20);
        x.rule(t, 5, last);
        x.rule(t, 4, turns);
        x.rule(t, 2, down);
        x.rule(t, 3, up);
        x.run(t, 200);
        return x.threshold(t);
    }

    private static void promise23Threshold() {
        c.due("20 30 20 30, of two the greater", thresholdAfter(4, 4, 10, 10), 30);
        c.due("20 25 15 20, of four the third", thresholdAfter(4, 4, 10, 5), 20);
        c.due("of two the greater", thresholdAfter(2, 2, 10, 5), 25);
        c.due("of one", thresholdAfter(3, 1, 10, 5), 15);
        c.due("the last three of 20 25 15 20 10", thresholdAfter(5, 3, 10, 5), 15);
        c.due("all of 20 25 15 20 10", thresholdAfter(5, 5, 10, 5), 20);
        HearingRoom x = new HearingRoom();
        int t = Rooms.recited(x, "101010");
        x.run(t, 5);
        c.due("not ENDED", x.threshold(t), NOTHING);
        c.due("status()", x.status(), 0);
        int m = x.test(0, 0, 0, 0);
        x.rule(m, 6, 1);
        x.run(m, 1);
        c.due("ENDED by MOST", x.told(m, 3), 3);
        c.due("none", x.threshold(m), NOTHING);
        c.dueBad(x, "threshold(2)", x.threshold(2));
        c.dueBad(x, "threshold(-1)", x.threshold(-1));
    }

    private static void promise24And25Rate() {
        HearingRoom x = new HearingRoom();
        int t = Rooms.recited(x, "110011101011");
        x.rule(t, 4, 20);
        x.rule(t, 9, 2);
        x.rule(t, 10, 666);
        c.dueFinding(x, "rate", x.rate(t), 9);
        c.dueFinding(x, "unsure", x.unsure(t), 9);
        x.step(t);
        c.dueFinding(x, "none SILENT yet", x.rate(t), 9);
        x.step(t);
        c.due("1 of 1", x.rate(t), 1000);
        c.due("finding()", x.finding(), 0);
        c.due("unsure", x.unsure(t), 1);
        x.run(t, 2);
        c.due("1 of 2", x.rate(t), 500);
        x.run(t, 2);
        c.due("2 of 3, cut", x.rate(t), 666);
        c.due("666 is not above 666", x.unsure(t), 0);
        c.due("status()", x.status(), 0);
        c.dueBad(x, "rate(1)", x.rate(1));
        c.dueBad(x, "unsure(1)", x.unsure(1));
        c.due("finding()", x.finding(), 0);
        c.due("findings(9)", x.findings(9), 3);
        HearingRoom y = new HearingRoom();
        int s = Rooms.recited(y, "1110");
        y.rule(s, 9, 2);
        y.rule(s, 10, 499);
        y.run(s, 4);
        c.due("500 is above 499", y.unsure(s), 1);
    }
}
