/** Boundary cases that the document names of making tests and their rules (promises 14 to 16); each comment is the sentence. */
public final class RuleEdgesTest {
    private static final int NOTHING = -1000, BAD = -1001, FULL = -1002, STATE = -1003;
    private static final int GOING = 1, UNBEGUN = 2;
    private static final Check c = new Check("RuleEdgesTest");
    private static final Edges busy = new Edges(c, Rooms::busy);
    private static final Edges full = new Edges(c, Rooms::full);
    private static final Edges almost = new Edges(c, Rooms::almostFull);

    public static void main(String[] args) {
        busyRoomIsAsTold();
        atMost60();
        testArguments();
        rulesAtFirst();
        whichRules();
        plainRules();
        catchOf0Or2To20();
        turnsAndLast();
        levelsInOrder();
        threeMayMeet();
        startIsTheLevel();
        onlyBeforeAnAnswer();
        noiseArguments();
        noiseUntilItIsEnded();
        c.end();
    }

    /** The rooms in which calls are refused below are in the states that they are meant to be in. */
    private static void busyRoomIsAsTold() {
        HearingRoom x = Rooms.busy();
        int[] ended = {1, 0, 0, 3};
        for (int t = 0; t < 4; t++) c.due("told(" + t + ", 3)", x.told(t, 3), ended[t]);
        c.due("test 1 goes on", x.told(1, 1), 4);
        c.due("test 1 had a silent one", x.told(1, 6), 1);
        c.due("test 2 did not begin", x.told(2, 1), 0);
        c.due("a plateau was known", x.plateauOf(0), 1);
        c.due("a value is marked", x.marked(0, 0, 0, 3), 1);
        c.dueTrace(x, "busy", 5, 2, 1);
        HearingRoom y = Rooms.busy();
        c.due("finding()", y.finding(), 8);
        c.due("status()", y.status(), -108);
        HearingRoom z = Rooms.full();
        int[] many = {24, 40, 60, 20};
        for (int what = 0; what < 4; what++) c.due("count(" + what + ") when full", z.count(what), many[what]);
        HearingRoom w = Rooms.almostFull();
        for (int what = 0; what < 4; what++) c.due("count(" + what + ") when almost full", w.count(what), many[what] - 1);
    }

    /** TESTS, 60 at most. .. A TEST: its number. BAD; FULL. */
    private static void atMost60() {
        busy.letBy("test(0, 0, 0, 0)", 4, x -> x.test(0, 0, 0, 0));
        almost.letBy("test(0, 0, 0, 0)", 59, x -> x.test(0, 0, 0, 0));
        full.refused("test(0, 0, 0, 0)", FULL, x -> x.test(0, 0, 0, 0));
        full.refused("test(24, 0, 0, 0)", BAD, x -> x.test(24, 0, 0, 0));
        full.refused("test(0, 40, 0, 0)", BAD, x -> x.test(0, 40, 0, 0));
        full.refused("test(0, 0, 2, 0)", BAD, x -> x.test(0, 0, 2, 0));
        full.refused("test(0, 0, 0, 24)", BAD, x -> x.test(0, 0, 0, 24));
    }

    /** Each of a DEVICE, a LISTENER, an EAR, a TONE. */
    private static void testArguments() {
        busy.range("test(device, 0, 0, 0)", 0, 4, (x, v) -> x.test(v, 0, 0, 0));
        busy.range("test(0, listener, 0, 0)", 0, 1, (x, v) -> x.test(0, v, 0, 0));
        busy.range("test(0, 0, ear, 0)", 0, 1, (x, v) -> x.test(0, 0, v, 0));
        busy.range("test(0, 0, 0, tone)", 0, 23, (x, v) -> x.test(0, 0, 0, v));
        HearingRoom x = new HearingRoom();
        c.dueBad(x, "neither device nor listener", x.test(0, 0, 0, 0));
        x.device(0, 0, 0);
        c.dueBad(x, "no listener", x.test(0, 0, 0, 0));
        x.listener(0);
        c.due("both", x.test(0, 0, 0, 0), 0);
        HearingRoom y = new HearingRoom();
        y.listener(0);
        c.dueBad(y, "no device", y.test(0, 0, 0, 0));
    }

    /** A RULE: START 40, FIRST 20, DOWN 10, UP 5, TURNS 6, LAST 4, MOST 60, LOW -10, HIGH 100, CATCH 0, UNSURE 300. */
    private static void rulesAtFirst() {
        int[] usual = {40, 20, 10, 5, 6, 4, 60, -10, 100, 0, 300};
        for (int what = 0; what <= 10; what++) {
            HearingRoom x = Rooms.busy();
            int t = x.test(3, 1, 1, 9);
            int v = usual[what] == 0 ? 2 : usual[what] + 1;
            c.due("rule(t, " + what + ") at first", x.rule(t, what, v), usual[what]);
            c.due("rule(t, " + what + ") then", x.rule(t, what, usual[what]), v);
        }
        HearingRoom x = Rooms.busy();
        int t = x.test(3, 1, 1, 9);
        int[] told = {40, 0, 0, 0, 0, 0, 0, NOTHING, 0, 3, 1, 1, 9};
        for (int what = 0; what <= 12; what++) c.due("told(t, " + what + ") at first", x.told(t, what), told[what]);
    }

    /** what = 0 START, .. 10 UNSURE. */
    private static void whichRules() {
        busy.range("rule(2, what, 20)", 0, 10, (x, v) -> x.rule(UNBEGUN, v, 20));
        busy.outside("rule(test, 1, 20)", 0, 3, (x, v) -> x.rule(v, 1, 20));
        busy.letBy("rule(2, 3, 7)", 4, x -> x.rule(UNBEGUN, 3, 7));
    }

    /** 1 FIRST, 2 DOWN, 3 UP (0 .. 60), .. 6 MOST (1 .. 200), .. 10 UNSURE (0 .. 1000). */
    private static void plainRules() {
        busy.range("rule(2, 1, v)", 0, 60, (x, v) -> x.rule(UNBEGUN, 1, v));
        busy.range("rule(2, 2, v)", 0, 60, (x, v) -> x.rule(UNBEGUN, 2, v));
        busy.range("rule(2, 3, v)", 0, 60, (x, v) -> x.rule(UNBEGUN, 3, v));
        busy.range("rule(2, 6, v)", 1, 200, (x, v) -> x.rule(UNBEGUN, 6, v));
        busy.range("rule(2, 10, v)", 0, 1000, (x, v) -> x.rule(UNBEGUN, 10, v));
    }

    /** 9 CATCH (0, 2 .. 20). */
    private static void catchOf0Or2To20() {
        busy.range("rule(2, 9, v)", 2, 20, (x, v) -> x.rule(UNBEGUN, 9, v));
        busy.letBy("rule(2, 9, 0)", 0, x -> x.rule(UNBEGUN, 9, 0));
        busy.refused("rule(2, 9, 1)", BAD, x -> x.rule(UNBEGUN, 9, 1));
        busy.refused("rule(2, 9, -1)", BAD, x -> x.rule(UNBEGUN, 9, -1));
        busy.refused("rule(2, 9, -2)", BAD, x -> x.rule(UNBEGUN, 9, -2));
        for (int v = 2; v <= 20; v++) {
            int every = v;
            busy.letBy("rule(2, 9, " + v + ")", 0, x -> x.rule(UNBEGUN, 9, every));
        }
    }

    private static Edges unbegun(int... whatAndV) {
        return new Edges(c, () -> {
            HearingRoom x = Rooms.busy();
            for (int i = 0; i + 1 < whatAndV.length; i += 2) x.rule(UNBEGUN, whatAndV[i], whatAndV[i + 1]);
            return x;
        });
    }

    /** 4 TURNS (1 .. 20), 5 LAST (1 .. 20) .. BAD: also .. LAST above TURNS. */
    private static void turnsAndLast() {
        busy.range("rule(2, 4, v) with LAST 4", 4, 20, (x, v) -> x.rule(UNBEGUN, 4, v));
        busy.range("rule(2, 5, v) with TURNS 6", 1, 6, (x, v) -> x.rule(UNBEGUN, 5, v));
        unbegun(5, 1).range("rule(2, 4, v) with LAST 1", 1, 20, (x, v) -> x.rule(UNBEGUN, 4, v));
        unbegun(4, 20).range("rule(2, 5, v) with TURNS 20", 1, 20, (x, v) -> x.rule(UNBEGUN, 5, v));
        Edges least = unbegun(5, 1, 4, 1);
        least.range("rule(2, 5, v) with TURNS 1", 1, 1, (x, v) -> x.rule(UNBEGUN, 5, v));
        Edges most = unbegun(4, 20, 5, 20);
        most.range("rule(2, 4, v) with LAST 20", 20, 20, (x, v) -> x.rule(UNBEGUN, 4, v));
    }

    /** START, LOW, HIGH that are no LEVELS, or would not be in that order (LOW, START, HIGH; two may be the same). */
    private static void levelsInOrder() {
        // LOW -10, START 35, HIGH 100
        busy.range("rule(2, 0, v)", -10, 100, (x, v) -> x.rule(UNBEGUN, 0, v));
        busy.range("rule(2, 7, v)", -20, 35, (x, v) -> x.rule(UNBEGUN, 7, v));
        busy.range("rule(2, 8, v)", 35, 120, (x, v) -> x.rule(UNBEGUN, 8, v));
        Edges wide = unbegun(7, -20, 8, 120);
        wide.range("rule(2, 0, v) within LEVELS", -20, 120, (x, v) -> x.rule(UNBEGUN, 0, v));
        wide.refused("rule(2, 0, NOTHING)", BAD, x -> x.rule(UNBEGUN, 0, NOTHING));
        wide.refused("rule(2, 7, NOTHING)", BAD, x -> x.rule(UNBEGUN, 7, NOTHING));
        wide.refused("rule(2, 8, NOTHING)", BAD, x -> x.rule(UNBEGUN, 8, NOTHING));
        unbegun(8, 120, 0, 120).range("rule(2, 7, v) below START 120", -20, 120, (x, v) -> x.rule(UNBEGUN, 7, v));
        unbegun(7, -20, 0, -20).range("rule(2, 8, v) above START -20", -20, 120, (x, v) -> x.rule(UNBEGUN, 8, v));
        unbegun(7, 35).range("rule(2, 0, v) with LOW 35", 35, 100, (x, v) -> x.rule(UNBEGUN, 0, v));
        unbegun(8, 35).range("rule(2, 0, v) with HIGH 35", -10, 35, (x, v) -> x.rule(UNBEGUN, 0, v));
    }

    /** Two may be the same: so may LOW and START while START and HIGH are. */
    private static void threeMayMeet() {
        Edges met = unbegun(7, 35, 8, 35);
        met.range("rule(2, 0, v) where all meet", 35, 35, (x, v) -> x.rule(UNBEGUN, 0, v));
        met.range("rule(2, 7, v) where all meet", -20, 35, (x, v) -> x.rule(UNBEGUN, 7, v));
        met.range("rule(2, 8, v) where all meet", 35, 120, (x, v) -> x.rule(UNBEGUN, 8, v));
    }

    /** The TEST's LEVEL (START at first). */
    private static void startIsTheLevel() {
        HearingRoom x = Rooms.busy();
        c.due("told(2, 0)", x.told(UNBEGUN, 0), 35);
        x.rule(UNBEGUN, 0, 100);
        c.due("told(2, 0) then", x.told(UNBEGUN, 0), 100);
        x.rule(UNBEGUN, 0, 101);
        c.due("told(2, 0) behind BAD", x.told(UNBEGUN, 0), 100);
        x.rule(UNBEGUN, 7, 50);
        c.due("told(2, 0) behind LOW", x.told(UNBEGUN, 0), 100);
    }

    /** STATE: a tone was answered. */
    private static void onlyBeforeAnAnswer() {
        int[] fine = {30, 21, 11, 6, 7, 3, 61, -11, 99, 5, 301};
        for (int what = 0; what <= 10; what++) {
            int w = what;
            busy.refused("rule(1, " + w + ", " + fine[w] + ") of one going on", STATE, x -> x.rule(GOING, w, fine[w]));
            busy.refused("rule(3, " + w + ", " + fine[w] + ") of one ENDED", STATE, x -> x.rule(3, w, fine[w]));
        }
        busy.refused("rule(1, 11, 20)", BAD, x -> x.rule(GOING, 11, 20));
        busy.refused("rule(1, -1, 20)", BAD, x -> x.rule(GOING, -1, 20));
        busy.refused("rule(1, 1, 61)", BAD, x -> x.rule(GOING, 1, 61));
        busy.refused("rule(1, 9, 1)", BAD, x -> x.rule(GOING, 9, 1));
        busy.refused("rule(1, 0, 101) above HIGH", BAD, x -> x.rule(GOING, 0, 101));
        busy.refused("rule(1, 4, 3) below LAST", BAD, x -> x.rule(GOING, 4, 3));
        busy.refused("rule(0, 5, 3) above TURNS", BAD, x -> x.rule(0, 5, 3));
        HearingRoom x = new HearingRoom();
        int t = Rooms.recited(x, "");
        c.dueFinding(x, "a step without an answer", x.step(t), 8);
        c.due("rule behind it", x.rule(t, 1, 9), 20);
        Rooms.tell(x, 0, "1");
        x.step(t);
        c.dueRefused(x, "rule behind the first answer", x.rule(t, 1, 9), STATE);
    }

    /** NOISE of a TEST (a LEVEL or NOTHING): what it was. BAD. */
    private static void noiseArguments() {
        busy.range("noise(1, level)", -20, 120, (x, v) -> x.noise(GOING, v));
        busy.range("noise(2, level)", -20, 120, (x, v) -> x.noise(UNBEGUN, v));
        busy.letBy("noise(1, 120)", 20, x -> x.noise(GOING, 120));
        busy.letBy("noise(2, -20)", 25, x -> x.noise(UNBEGUN, -20));
        busy.letBy("noise(1, NOTHING)", 20, x -> x.noise(GOING, NOTHING));
        busy.refused("noise(1, -999)", BAD, x -> x.noise(GOING, -999));
        busy.refused("noise(1, -1001)", BAD, x -> x.noise(GOING, -1001));
        busy.outside("noise(test, 30)", 0, 3, (x, v) -> x.noise(v, 30));
        HearingRoom x = Rooms.busy();
        x.noise(GOING, NOTHING);
        c.due("NOTHING again", x.noise(GOING, 0), NOTHING);
        c.due("0 is a level", x.noise(GOING, 1), 0);
    }

    /** STATE: it is ENDED. */
    private static void noiseUntilItIsEnded() {
        busy.refused("noise(0, 30)", STATE, x -> x.noise(0, 30));
        busy.refused("noise(0, NOTHING)", STATE, x -> x.noise(0, NOTHING));
        busy.refused("noise(3, 30)", STATE, x -> x.noise(3, 30));
        busy.refused("noise(0, 121)", BAD, x -> x.noise(0, 121));
        busy.refused("noise(3, -21)", BAD, x -> x.noise(3, -21));
        HearingRoom x = new HearingRoom();
        int t = Rooms.recited(x, "00000");
        x.run(t, 4);
        c.due("one ahead of the end", x.noise(t, 3), NOTHING);
        x.run(t, 1);
        c.due("ENDED by HITS", x.told(t, 3), 2);
        c.dueRefused(x, "behind the end", x.noise(t, 4), STATE);
        c.due("its noise stays", x.told(t, 7), 3);
    }
}
