/** Boundary cases that the document names of what is told of tests (promises 19 to 25); each comment is the sentence. */
public final class KeptEdgesTest {
    private static final int NOTHING = -1000, BAD = -1001;
    private static final Check c = new Check("KeptEdgesTest");
    private static final Edges busy = new Edges(c, Rooms::busy);

    public static void main(String[] args) {
        toldArguments();
        tonesThatWereAnswered();
        twoHundredTones();
        twentyTurns();
        thresholdOnlyByTurns();
        theMiddleOne();
        thresholdArguments();
        noneWasSilent();
        thousandthsAreCut();
        aboveUnsure();
        c.end();
    }

    private static int made(HearingRoom x, String answers, int... whatAndV) {
        int t = Rooms.recited(x, answers);
        for (int i = 0; i + 1 < whatAndV.length; i += 2) x.rule(t, whatAndV[i], whatAndV[i + 1]);
        return t;
    }

    /** Of a TEST: what = 0 its LEVEL now, .. 12 TONE. BAD. */
    private static void toldArguments() {
        busy.range("told(1, what)", 0, 12, (x, v) -> x.told(1, v));
        busy.range("told(test, 0)", 0, 3, (x, v) -> x.told(v, 0));
        HearingRoom x = new HearingRoom();
        c.dueBad(x, "told(0, 0) without any", x.told(0, 0));
        // numbers that are told apart: 7 answers, 3 to SILENT ones, 1 of them FALSE, 2 TURNS, 1 HIT at HIGH
        Edges told = new Edges(c, KeptEdgesTest::manyNumbers);
        int[] due = {48, 7, 2, 0, 0, 1, 3, 11, 1, 5, 3, 1, 8};
        for (int what = 0; what <= 12; what++) {
            int w = what;
            told.letBy("told(4, " + w + ")", due[w], r -> r.told(4, w));
        }
        int[] first = {40, 0, 0, 0, 0, 0, 0, NOTHING, 0, 5, 3, 0, 9};
        for (int what = 0; what <= 12; what++) {
            int w = what;
            told.letBy("told(5, " + w + ")", first[w], r -> r.told(5, w));
        }
        int[] levels = {40, NOTHING, 48, NOTHING, 46, NOTHING, 48};
        int[] answers = {0, 0, 1, 1, 0, 0, 0};
        for (int k = 0; k < 7; k++) {
            int n = k;
            told.letBy("tone(4, " + k + ")", levels[k], r -> r.tone(4, n));
            told.letBy("answer(4, " + k + ")", answers[k], r -> r.answer(4, n));
        }
        told.letBy("turn(4, 0)", 48, r -> r.turn(4, 0));
        told.letBy("turn(4, 1)", 46, r -> r.turn(4, 1));
        told.letBy("rate(4)", 333, r -> r.rate(4));
        told.letBy("unsure(4)", 1, r -> r.unsure(4));
    }

    private static HearingRoom manyNumbers() {
        HearingRoom x = Rooms.busy();
        int d = Rooms.ready(x, 0);
        x.listener(1);
        int l = x.listener(0);
        x.script(l, 0b0001100, 7);
        int t = x.test(d, l, 1, 8);
        x.test(d, l, 0, 9);
        x.rule(t, 9, 2);
        x.rule(t, 1, 60);
        x.rule(t, 2, 2);
        x.rule(t, 3, 60);
        x.rule(t, 8, 48);
        x.noise(t, 11);
        x.run(t, 7);
        x.tone(t, 99);
        return x;
    }

    /** LEVEL of tone k (from 0) that was answered. BAD; UNREADY: there is no such one (also k below 0). */
    private static void tonesThatWereAnswered() {
        // test 1 has four answers, the third to a SILENT one; test 0 has two TURNS
        int[] none = {-1, 4, 200, Integer.MIN_VALUE, Integer.MAX_VALUE};
        for (int k : none) {
            busy.found("tone(1, " + k + ")", 8, 0, x -> x.tone(1, k));
            busy.found("answer(1, " + k + ")", 8, 0, x -> x.answer(1, k));
        }
        int[] noTurn = {-1, 2, 20, Integer.MIN_VALUE, Integer.MAX_VALUE};
        for (int k : noTurn) busy.found("turn(0, " + k + ")", 8, 0, x -> x.turn(0, k));
        busy.found("tone(2, 0) of one that did not begin", 8, 0, x -> x.tone(2, 0));
        busy.found("answer(2, 0) of one that did not begin", 8, 0, x -> x.answer(2, 0));
        busy.found("turn(2, 0) of one that did not begin", 8, 0, x -> x.turn(2, 0));
        busy.outside("tone(test, 0)", 0, 3, (x, v) -> x.tone(v, 0));
        busy.outside("answer(test, 0)", 0, 3, (x, v) -> x.answer(v, 0));
        busy.outside("turn(test, 0)", 0, 3, (x, v) -> x.turn(v, 0));
        busy.refused("tone(4, -1): BAD ahead of UNREADY", BAD, x -> x.tone(4, -1));
        busy.letBy("tone(1, 0)", 40, x -> x.tone(1, 0));
        busy.letBy("tone(1, 2)", NOTHING, x -> x.tone(1, 2));
        HearingRoom x = new HearingRoom();
        int t = made(x, "10");
        x.step(t);
        c.due("tone 0", x.tone(t, 0), 40);
        c.due("answer 0", x.answer(t, 0), 1);
        c.dueFinding(x, "tone 1 yet", x.tone(t, 1), 8);
        c.dueFinding(x, "answer 1 yet", x.answer(t, 1), 8);
        x.step(t);
        c.due("tone 1", x.tone(t, 1), 20);
        c.due("answer 1", x.answer(t, 1), 0);
        c.due("turn 0", x.turn(t, 0), 20);
        c.dueFinding(x, "turn 1", x.turn(t, 1), 8);
    }

    /** MOST (1 .. 200): all of them are kept. */
    private static void twoHundredTones() {
        HearingRoom x = new HearingRoom();
        int d = Rooms.ready(x, 0);
        int l = x.listener(0);
        for (int i = 0; i < 10; i++) x.script(l, 0x9a3b5 ^ i * 0x1249, 20);
        int t = x.test(d, l, 0, 0);
        x.rule(t, 6, 200);
        x.rule(t, 1, 0);
        x.rule(t, 2, 0);
        x.rule(t, 3, 0);
        x.rule(t, 9, 2);
        x.rule(t, 4, 20);
        int made = x.run(t, 200);
        int last = made - 1;
        int due = (0x9a3b5 ^ last / 20 * 0x1249) >> last % 20 & 1;
        c.due("the last answer", x.answer(t, last), due);
        c.dueFinding(x, "behind the last answer", x.answer(t, made), 8);
        HearingRoom y = new HearingRoom();
        int u = y.test(Rooms.ready(y, 0), y.listener(1), 0, 0);
        y.rule(u, 6, 200);
        y.rule(u, 1, 0);
        c.due("200 tones", y.run(u, 200), 200);
        c.due("tone 199", y.tone(u, 199), 40);
        c.due("answer 199", y.answer(u, 199), 0);
        c.dueFinding(y, "tone 200", y.tone(u, 200), 8);
        c.dueFinding(y, "answer 200", y.answer(u, 200), 8);
    }

    /** TURNS (1 .. 20): all of them are kept. */
    private static void twentyTurns() {
        HearingRoom x = new HearingRoom();
        int t = made(x, "101010101010101010101", 4, 20, 5, 20, 1, 20, 2, 3, 3, 2);
        c.due("21 answers", x.run(t, 200), 21);
        c.due("told(t, 2)", x.told(t, 2), 20);
        int level = 20;
        for (int k = 0; k < 20; k++) {
            c.due("turn " + k, x.turn(t, k), level);
            level += k % 2 == 0 ? 2 : -3;
        }
        c.dueFinding(x, "turn 20", x.turn(t, 20), 8);
        c.due("of all twenty", x.threshold(t), middleOf(x, t, 20));
    }

    private static int middleOf(HearingRoom x, int t, int last) {
        int turns = x.told(t, 2);
        int[] rising = new int[last];
        for (int i = 0; i < last; i++) rising[i] = x.turn(t, turns - last + i);
        java.util.Arrays.sort(rising);
        return rising[last / 2];
    }

    /** THE THRESHOLD of one ENDED by 1: ..; else there is none. */
    private static void thresholdOnlyByTurns() {
        HearingRoom x = new HearingRoom();
        int t = made(x, "1010101", 2, 10, 3, 10);
        c.due("not begun", x.threshold(t), NOTHING);
        x.run(t, 6);
        c.due("five turns of six, more than LAST", x.threshold(t), NOTHING);
        c.due("status()", x.status(), 0);
        x.step(t);
        c.due("six", x.threshold(t), 30);
        HearingRoom y = new HearingRoom();
        int u = made(y, "1010101", 6, 6);
        y.run(u, 200);
        c.due("ENDED by MOST", y.told(u, 3), 3);
        c.due("five turns", y.told(u, 2), 5);
        c.due("none", y.threshold(u), NOTHING);
        HearingRoom z = new HearingRoom();
        int w = made(z, "1011", 7, 20, 3, 0);
        z.run(w, 200);
        c.due("ENDED by HITS", z.told(w, 3), 2);
        c.due("two turns", z.told(w, 2), 2);
        c.due("none of hits", z.threshold(w), NOTHING);
    }

    private static void dueMiddle(int turns, int last, int first, int down, int up) {
        HearingRoom x = new HearingRoom();
        int t = made(x, "101010101010101010101", 4, 20, 5, last, 4, turns, 1, first, 2, down, 3, up, 7, -20, 8, 120);
        x.run(t, turns + 1);
        c.due(last + " of " + turns + " turns, DOWN " + down + ", UP " + up, x.threshold(t), middleOf(x, t, last));
        c.due("ENDED", x.told(t, 3), 1);
    }

    /** Of the LAST TURNS the middle one, rising, of two the greater. */
    private static void theMiddleOne() {
        for (int turns = 1; turns <= 20; turns++) {
            for (int last = 1; last <= turns; last++) {
                dueMiddle(turns, last, 20, 10, 5);
                dueMiddle(turns, last, 5, 3, 9);
                dueMiddle(turns, last, 20, 4, 4);
            }
        }
        // written out: turns at 20 25 15 20 10 15
        HearingRoom x = new HearingRoom();
        int t = made(x, "1010101", 5, 2);
        x.run(t, 200);
        c.due("of 10 15", x.threshold(t), 15);
        HearingRoom y = new HearingRoom();
        int u = made(y, "1010101", 5, 1);
        y.run(u, 200);
        c.due("of 15", y.threshold(u), 15);
        HearingRoom z = new HearingRoom();
        int w = made(z, "1010101", 5, 3);
        z.run(w, 200);
        c.due("of 10 15 20", z.threshold(w), 15);
        HearingRoom v = new HearingRoom();
        int s = made(v, "1010101", 5, 6);
        v.run(s, 200);
        c.due("of 10 15 15 20 20 25", v.threshold(s), 20);
    }

    /** THE THRESHOLD; NOTHING: there is none. BAD. */
    private static void thresholdArguments() {
        busy.range("threshold(test)", 0, 3, (x, v) -> x.threshold(v));
        busy.letBy("threshold(1)", NOTHING, x -> x.threshold(1));
        busy.letBy("threshold(2)", NOTHING, x -> x.threshold(2));
        busy.letBy("threshold(3)", NOTHING, x -> x.threshold(3));
    }

    /** BAD; SHARED: none was SILENT. */
    private static void noneWasSilent() {
        busy.outside("rate(test)", 0, 3, (x, v) -> x.rate(v));
        busy.outside("unsure(test)", 0, 3, (x, v) -> x.unsure(v));
        busy.found("rate(2) of one that did not begin", 9, 0, x -> x.rate(2));
        busy.found("unsure(2) of one that did not begin", 9, 0, x -> x.unsure(2));
        busy.found("rate(3) without SILENT ones", 9, 0, x -> x.rate(3));
        busy.found("unsure(3) without SILENT ones", 9, 0, x -> x.unsure(3));
        HearingRoom x = new HearingRoom();
        int t = made(x, "10", 9, 2);
        x.step(t);
        c.dueFinding(x, "rate ahead of the first", x.rate(t), 9);
        c.dueFinding(x, "unsure ahead of the first", x.unsure(t), 9);
        x.step(t);
        c.due("rate behind it", x.rate(t), 0);
        c.due("finding()", x.finding(), 0);
        c.due("unsure behind it", x.unsure(t), 0);
    }

    /** A test with so many SILENT ones, so many of them FALSE. */
    private static int falseOnes(HearingRoom x, int many, int of, int limit) {
        StringBuilder answers = new StringBuilder();
        for (int i = 0; i < of; i++) answers.append("1").append(i < many ? "1" : "0");
        int t = made(x, answers.toString(), 9, 2, 1, 0, 6, 200, 10, limit);
        c.due("all were answered", x.run(t, 200), 2 * of);
        c.due("SILENT ones", x.told(t, 6), of);
        c.due("FALSE ones", x.told(t, 5), many);
        return t;
    }

    /** FALSE ones by SILENT ones, in thousandths, cut. */
    private static void thousandthsAreCut() {
        int[][] rates = {{0, 1, 0}, {1, 1, 1000}, {0, 7, 0}, {7, 7, 1000}, {1, 3, 333}, {2, 3, 666}, {1, 6, 166}, {5, 6, 833},
            {1, 7, 142}, {6, 7, 857}, {1, 2, 500}, {50, 51, 980}, {1, 51, 19}};
        for (int[] r : rates) {
            HearingRoom x = new HearingRoom();
            int t = falseOnes(x, r[0], r[1], 300);
            c.due("rate of " + r[0] + " by " + r[1], x.rate(t), r[2]);
            c.due("status()", x.status(), 0);
        }
    }

    private static int unsureOf(int many, int of, int limit) {
        HearingRoom x = new HearingRoom();
        int t = falseOnes(x, many, of, limit);
        return x.unsure(t);
    }

    /** Whether that is above UNSURE: 1, 0. */
    private static void aboveUnsure() {
        c.due("333 above 332", unsureOf(1, 3, 332), 1);
        c.due("333 above 333", unsureOf(1, 3, 333), 0);
        c.due("333 above 334", unsureOf(1, 3, 334), 0);
        c.due("0 above 0", unsureOf(0, 3, 0), 0);
        c.due("19 above 0", unsureOf(1, 51, 0), 1);
        c.due("1000 above 1000", unsureOf(3, 3, 1000), 0);
        c.due("1000 above 999", unsureOf(3, 3, 999), 1);
        HearingRoom x = new HearingRoom();
        int t = made(x, "11", 9, 2);
        x.run(t, 2);
        c.due("1000 above 300, as at first", x.unsure(t), 1);
        HearingRoom y = new HearingRoom();
        int u = falseOnes(y, 3, 10, 300);
        c.due("300 above 300", y.unsure(u), 0);
    }
}
