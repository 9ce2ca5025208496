/** Boundary cases that the document names of plateaus and replays (promises 26 to 28); each comment is the sentence. */
public final class PlateauEdgesTest {
    private static final int NOTHING = -1000, BAD = -1001, STATE = -1003;
    private static final int GOING = 1, UNBEGUN = 2;
    private static final Check c = new Check("PlateauEdgesTest");
    private static final Edges busy = new Edges(c, Rooms::busy);

    public static void main(String[] args) {
        plateauArguments();
        onlyBeforeItBegan();
        manyAtMost();
        noneAbove120();
        asSoonAsSoManyAreWithin();
        spanOf0To60();
        runningOnesAllThere();
        wideOf2To12();
        findingEndsIt();
        eachLikeTheTest();
        testStaysAsItWas();
        listenersGoOn();
        firstSixtyOfAll();
        latestPlateau();
        replayArguments();
        replayFindings();
        replayAsManySteps();
        replayWithTheNoiseNow();
        c.end();
    }

    private static int made(HearingRoom x, String answers, int... whatAndV) {
        int t = Rooms.recited(x, answers);
        for (int i = 0; i + 1 < whatAndV.length; i += 2) x.rule(t, whatAndV[i], whatAndV[i + 1]);
        return t;
    }

    /** A test whose staircases end at their first turn: "10" at 20, "01" at 60, "110" at 0. */
    private static int quick(HearingRoom x, String answers) {
        return made(x, answers, 5, 1, 4, 1);
    }

    private static void duePlateau(HearingRoom x, String when, int known, int noise, int stairs, int tones, int found) {
        int[] due = {known, noise, stairs, tones, found};
        for (int what = 0; what < 5; what++) {
            c.due("plateauOf(" + what + ") of " + when, x.plateauOf(what), due[what]);
            c.due("status()", x.status(), 0);
        }
    }

    /** BAD: also from is no LEVEL, by (1 .. 40), many (1 .. 12), wide (2 .. many), span (0 .. 60). */
    private static void plateauArguments() {
        busy.range("plateau(2, from, 10, 4, 2, 5)", -20, 120, (x, v) -> x.plateau(UNBEGUN, v, 10, 4, 2, 5));
        busy.range("plateau(2, 0, by, 4, 2, 5)", 1, 40, (x, v) -> x.plateau(UNBEGUN, 0, v, 4, 2, 5));
        // many 1 leaves no wide of 2 or more, so the least that is let by is 2
        busy.range("plateau(2, 0, 10, many, 2, 5)", 2, 12, (x, v) -> x.plateau(UNBEGUN, 0, 10, v, 2, 5));
        busy.refused("plateau(2, 0, 10, 1, 2, 5)", BAD, x -> x.plateau(UNBEGUN, 0, 10, 1, 2, 5));
        busy.refused("plateau(2, 0, 10, 1, 1, 5)", BAD, x -> x.plateau(UNBEGUN, 0, 10, 1, 1, 5));
        busy.refused("plateau(2, 0, 10, 0, 0, 5)", BAD, x -> x.plateau(UNBEGUN, 0, 10, 0, 0, 5));
        busy.range("plateau(2, 0, 10, 4, wide, 5)", 2, 4, (x, v) -> x.plateau(UNBEGUN, 0, 10, 4, v, 5));
        busy.range("plateau(2, 0, 10, 12, wide, 5)", 2, 12, (x, v) -> x.plateau(UNBEGUN, 0, 10, 12, v, 5));
        busy.range("plateau(2, 0, 10, 2, wide, 5)", 2, 2, (x, v) -> x.plateau(UNBEGUN, 0, 10, 2, v, 5));
        busy.range("plateau(2, 0, 10, 4, 2, span)", 0, 60, (x, v) -> x.plateau(UNBEGUN, 0, 10, 4, 2, v));
        busy.outside("plateau(test, 0, 10, 4, 2, 5)", 0, 3, (x, v) -> x.plateau(v, 0, 10, 4, 2, 5));
        busy.refused("plateau(2, NOTHING, 10, 4, 2, 5)", BAD, x -> x.plateau(UNBEGUN, NOTHING, 10, 4, 2, 5));
    }

    /** A PLATEAU of a TEST that did not begin: .. STATE: a tone was answered. */
    private static void onlyBeforeItBegan() {
        busy.refused("plateau(1, 0, 10, 4, 2, 5) of one going on", STATE, x -> x.plateau(GOING, 0, 10, 4, 2, 5));
        busy.refused("plateau(0, 0, 10, 4, 2, 5) of one ENDED", STATE, x -> x.plateau(0, 0, 10, 4, 2, 5));
        busy.refused("plateau(3, 0, 10, 4, 2, 5) of one ENDED", STATE, x -> x.plateau(3, 0, 10, 4, 2, 5));
        busy.refused("plateau(1, 0, 0, 4, 2, 5): BAD ahead", BAD, x -> x.plateau(GOING, 0, 0, 4, 2, 5));
        busy.refused("plateau(1, 0, 10, 4, 5, 5): BAD ahead", BAD, x -> x.plateau(GOING, 0, 10, 4, 5, 5));
        HearingRoom x = new HearingRoom();
        int t = quick(x, "");
        x.step(t);
        c.due("a step without an answer began nothing", x.plateau(t, 0, 10, 4, 2, 5), NOTHING);
        c.due("status()", x.status(), 0);
        c.due("nor did the plateau", x.plateau(t, 0, 10, 4, 2, 5), NOTHING);
        c.due("status() then", x.status(), 0);
    }

    /** A plateau of a listener who hears nothing: no staircase has a threshold, so all noises come. */
    private static void dueNoises(int from, int by, int many, int stairs, int last) {
        HearingRoom x = new HearingRoom();
        int t = x.test(Rooms.ready(x, 0), x.listener(1), 0, 0);
        x.rule(t, 6, 1);
        c.due("not known", x.plateau(t, from, by, many, 2, 60), NOTHING);
        duePlateau(x, many + " from " + from + " by " + by, 0, last, stairs, stairs, 0);
        c.due("begun", x.silent(0), stairs);
    }

    /** From, from + by, ..., many of them at most. */
    private static void manyAtMost() {
        dueNoises(0, 10, 2, 2, 10);
        dueNoises(0, 10, 12, 12, 110);
        dueNoises(-20, 1, 12, 12, -9);
        dueNoises(-20, 12, 12, 12, 112);
    }

    /** None above 120. */
    private static void noneAbove120() {
        dueNoises(10, 10, 12, 12, 120);
        dueNoises(11, 10, 12, 11, 111);
        dueNoises(80, 40, 12, 2, 120);
        dueNoises(81, 40, 12, 1, 81);
        dueNoises(119, 1, 12, 2, 120);
        dueNoises(120, 1, 12, 1, 120);
        dueNoises(120, 40, 2, 1, 120);
        dueNoises(-20, 40, 12, 4, 100);
    }

    /** It is KNOWN as soon as the thresholds of so many running ones .. ; then the last one's is it. */
    private static void asSoonAsSoManyAreWithin() {
        HearingRoom x = new HearingRoom();
        int t = quick(x, "10" + "01" + "01" + "10");
        c.due("as soon as two are", x.plateau(t, 0, 5, 12, 2, 0), 60);
        duePlateau(x, "two of three", 1, 10, 3, 6, 0);
        HearingRoom y = new HearingRoom();
        int u = quick(y, "10" + "01" + "10");
        c.due("the last one's", y.plateau(u, 0, 5, 12, 2, 40), 60);
        duePlateau(y, "the first two", 1, 5, 2, 4, 0);
        HearingRoom z = new HearingRoom();
        int w = quick(z, "01" + "10" + "10");
        c.due("the last one's, not the greatest", z.plateau(w, 0, 5, 12, 2, 40), 20);
        HearingRoom v = new HearingRoom();
        int s = quick(v, "10" + "10");
        c.due("known by the last noise there is", v.plateau(s, 0, 5, 2, 2, 0), 20);
        duePlateau(v, "the last noise", 1, 5, 2, 4, 0);
        HearingRoom p = new HearingRoom();
        int q = quick(p, "10" + "10");
        c.due("known by noise 120", p.plateau(q, 80, 40, 12, 2, 0), 20);
        duePlateau(p, "noise 120", 1, 120, 2, 4, 0);
    }

    /** The greatest is not more than a told span above the least. */
    private static void spanOf0To60() {
        dueSpan("10" + "01", 40, 40, true);
        dueSpan("10" + "01", 40, 39, false);
        dueSpan("01" + "10", 40, 40, true);
        dueSpan("01" + "10", 40, 39, false);
        dueSpan("10" + "10", 0, 0, true);
        dueSpan("110" + "01", 60, 60, true);
        dueSpan("110" + "01", 60, 59, false);
        HearingRoom x = new HearingRoom();
        int t = made(x, "1110" + "01", 7, -1, 5, 1, 4, 1);
        c.due("-1 and 60, span 60", x.plateau(t, 0, 5, 2, 2, 60), NOTHING);
        duePlateau(x, "-1 and 60", 0, 5, 2, 6, 0);
    }

    private static void dueSpan(String answers, int apart, int span, boolean known) {
        HearingRoom x = new HearingRoom();
        int t = quick(x, answers);
        int due = !known ? NOTHING : answers.endsWith("01") ? 60 : 20;
        c.due(answers + ", " + apart + " apart, span " + span, x.plateau(t, 0, 5, 2, 2, span), due);
        c.due("known", x.plateauOf(0), known ? 1 : 0);
    }

    /** The thresholds of so many running ones (wide, 2 or more) are all there. */
    private static void runningOnesAllThere() {
        HearingRoom x = new HearingRoom();
        // the second and fourth staircase go down to LOW: 40 20 0 -10 -10
        int t = quick(x, "10" + "11111" + "10" + "11111" + "10" + "10");
        c.due("not parted by one without", x.plateau(t, 0, 5, 6, 2, 0), 20);
        duePlateau(x, "parted ones", 1, 25, 6, 18, 0);
        HearingRoom y = new HearingRoom();
        int u = quick(y, "11111" + "11111" + "11111");
        c.due("none without is like another", y.plateau(u, 0, 5, 3, 2, 60), NOTHING);
        duePlateau(y, "none there", 0, 10, 3, 15, 0);
        HearingRoom z = new HearingRoom();
        int w = quick(z, "10" + "01" + "10" + "01");
        c.due("the first and third do not run", z.plateau(w, 0, 5, 4, 2, 39), NOTHING);
        duePlateau(z, "never two running", 0, 15, 4, 8, 0);
    }

    /** Wide (2 .. many). */
    private static void wideOf2To12() {
        String twelve = "101010101010101010101010";
        for (int wide = 2; wide <= 12; wide++) {
            HearingRoom x = new HearingRoom();
            int t = quick(x, twelve);
            c.due("wide " + wide, x.plateau(t, 0, 1, 12, wide, 0), 20);
            duePlateau(x, "wide " + wide, 1, wide - 1, wide, 2 * wide, 0);
        }
        HearingRoom x = new HearingRoom();
        int t = quick(x, "01" + twelve.substring(2));
        c.due("eleven of twelve", x.plateau(t, 0, 1, 12, 12, 39), NOTHING);
        duePlateau(x, "eleven of twelve", 0, 11, 12, 24, 0);
        HearingRoom y = new HearingRoom();
        int u = quick(y, "10" + "01" + "10" + "10" + "10");
        c.due("the least and greatest of three", y.plateau(u, 0, 1, 12, 3, 39), 20);
        duePlateau(y, "three", 1, 4, 5, 10, 0);
        String[] three = {"10" + "01" + "01", "01" + "10" + "10", "10" + "01" + "10", "01" + "10" + "01"};
        for (String answers : three) {
            HearingRoom z = new HearingRoom();
            int w = quick(z, answers);
            c.due(answers + ", span 39", z.plateau(w, 0, 1, 3, 3, 39), NOTHING);
            HearingRoom v = new HearingRoom();
            int s = quick(v, answers);
            c.due(answers + ", span 40", v.plateau(s, 0, 1, 3, 3, 40), answers.endsWith("01") ? 60 : 20);
        }
    }

    /** A FINDING, or no more NOISES: NOT KNOWN. .. status() is 0 also with a FINDING. */
    private static void findingEndsIt() {
        HearingRoom x = new HearingRoom();
        int t = quick(x, "10" + "1");
        c.due("ended by UNREADY", x.plateau(t, 0, 5, 12, 2, 60), NOTHING);
        c.due("status()", x.status(), 0);
        c.due("finding()", x.finding(), 8);
        c.due("findings(8)", x.findings(8), 1);
        duePlateau(x, "UNREADY", 0, 5, 2, 3, 8);
        c.due("begun", x.silent(0), 4);
        c.due("silenced", x.silent(1), 4);
        HearingRoom y = new HearingRoom();
        int u = quick(y, "");
        y.plug(0, false);
        c.due("ended at once", y.plateau(u, -20, 5, 12, 2, 60), NOTHING);
        c.due("status() at once", y.status(), 0);
        c.due("finding() at once", y.finding(), 1);
        duePlateau(y, "ended at once", 0, -20, 1, 0, 1);
        HearingRoom z = new HearingRoom();
        int w = quick(z, "10" + "10");
        z.calibrate(0, 2, 71, 1);
        c.due("LOUD at its START", z.plateau(w, 0, 5, 12, 2, 60), NOTHING);
        duePlateau(z, "LOUD", 0, 0, 1, 0, 6);
        z.calibrate(0, 2, 70, 1);
        c.due("110.0 is not", z.plateau(w, 0, 5, 12, 2, 60), 20);
        c.due("finding() then", z.finding(), 0);
        // known as soon as it is, so no finding comes behind that
        HearingRoom v = new HearingRoom();
        int s = quick(v, "10" + "10");
        c.due("just enough answers", v.plateau(s, 0, 5, 12, 2, 0), 20);
        c.due("no finding", v.finding(), 0);
    }

    /** A staircase of its own for each NOISE, each like the TEST with that NOISE. */
    private static void eachLikeTheTest() {
        HearingRoom x = new HearingRoom();
        // START 60, FIRST 7, CATCH 2 in each from its own first tone on, so the second answers are to SILENT ones
        int t = made(x, "1" + "1" + "0" + "0" + "1" + "1", 5, 1, 4, 1, 0, 60, 1, 7, 9, 2);
        x.noise(t, 99);
        c.due("67 behind 53", x.plateau(t, 0, 5, 2, 2, 14), 67);
        duePlateau(x, "with SILENT ones", 1, 5, 2, 6, 0);
        c.dueTrace(x, "with SILENT ones", 10, 1, 10, 1, 10, 1, 10, 1);
        // with a limen at 0 on both ears the noise tells where the turn is: at 50 less than the noise
        HearingRoom y = new HearingRoom();
        int l = y.listener(1);
        y.limen(l, 0, 0, 0);
        int u = y.test(Rooms.ready(y, 0), l, 0, 0);
        y.rule(u, 5, 1);
        y.rule(u, 4, 1);
        y.rule(u, 1, 1);
        c.due("turns at 30 and 31", y.plateau(u, 81, 1, 2, 2, 1), 31);
        c.due("tones", y.plateauOf(3), 11 + 10);
        // of its own: neither HITS nor TURNS nor answers go on from one to the next
        HearingRoom z = new HearingRoom();
        int w = made(z, "11" + "11" + "11", 7, 40);
        c.due("two hits each", z.plateau(w, 0, 5, 3, 2, 60), NOTHING);
        duePlateau(z, "two hits each", 0, 10, 3, 6, 0);
        HearingRoom v = new HearingRoom();
        int s = made(v, "1" + "0" + "1", 6, 1, 5, 1, 4, 1);
        c.due("one answer each is no turn", v.plateau(s, 0, 5, 3, 2, 60), NOTHING);
        duePlateau(v, "one answer each", 0, 10, 3, 3, 0);
        HearingRoom p = new HearingRoom();
        int q = made(p, "101" + "101", 6, 3, 5, 1, 4, 3);
        c.due("two turns each are not four", p.plateau(q, 0, 5, 2, 2, 60), NOTHING);
        duePlateau(p, "two turns each", 0, 5, 2, 6, 0);
    }

    /** A PLATEAU of a TEST that did not begin: the TEST itself stays as it was. */
    private static void testStaysAsItWas() {
        HearingRoom x = Rooms.busy();
        HearingRoom y = Rooms.busy();
        x.plateau(UNBEGUN, -20, 3, 12, 12, 0);
        for (int what = 0; what <= 12; what++) c.due("told(2, " + what + ")", x.told(UNBEGUN, what), y.told(UNBEGUN, what));
        c.due("digest()", x.digest(), y.digest());
        c.due("its rule may be told", x.rule(UNBEGUN, 1, 3), 20);
        c.due("its noise", x.noise(UNBEGUN, 4), 25);
    }

    /** LISTENERS go on. */
    private static void listenersGoOn() {
        HearingRoom x = new HearingRoom();
        int t = quick(x, "10" + "10" + "01" + "1");
        x.plateau(t, 0, 5, 2, 2, 0);
        c.due("they gave", x.listenerOf(0, 2), 4);
        x.run(t, 200);
        c.due("the test has the next ones", x.answer(t, 0), 0);
        c.due("and so on", x.answer(t, 1), 1);
        c.due("its turn", x.turn(t, 0), 60);
    }

    /** TRACE: what is gone through by the latest .. plateau(). (The first 60 are kept.) */
    private static void firstSixtyOfAll() {
        HearingRoom x = new HearingRoom();
        int d = Rooms.ready(x, 2);
        int t = x.test(d, x.listener(1), 0, 0);
        x.rule(t, 6, 1);
        x.plateau(t, 0, 1, 12, 2, 0);
        int[] each = {10, 3, 2, 1};
        for (int k = 0; k < 48; k++) c.due("trace(" + k + ")", x.trace(k), each[k % 4]);
        c.due("trace(48)", x.trace(48), NOTHING);
        int u = x.test(d, 0, 0, 0);
        x.rule(u, 6, 2);
        x.rule(u, 1, 0);
        x.plateau(u, 0, 1, 12, 2, 0);
        for (int k = 0; k < 60; k++) c.due("trace(" + k + ") of more", x.trace(k), each[k % 4]);
        c.due("trace(60)", x.trace(60), NOTHING);
    }

    /** Of the latest PLATEAU: .. 1 the NOISE that it came to last (NOTHING: there was none) .. BAD. */
    private static void latestPlateau() {
        busy.range("plateauOf(what)", 0, 4, (x, v) -> x.plateauOf(v));
        HearingRoom twin = Rooms.busy();
        int[] told = new int[5];
        for (int what = 0; what < 5; what++) told[what] = twin.plateauOf(what);
        for (int what = 0; what < 5; what++) {
            int w = what;
            busy.letBy("plateauOf(" + w + ")", told[w], x -> x.plateauOf(w));
        }
        HearingRoom x = new HearingRoom();
        duePlateau(x, "none yet", 0, NOTHING, 0, 0, 0);
        int t = quick(x, "1010");
        x.plateau(t, 0, 41, 2, 2, 0);
        c.due("BAD", x.status(), BAD);
        duePlateau(x, "none yet behind BAD", 0, NOTHING, 0, 0, 0);
        x.plateau(t, 0, 40, 2, 2, 0);
        duePlateau(x, "known", 1, 40, 2, 4, 0);
        x.plateau(t, -5, 40, 2, 2, 0);
        duePlateau(x, "ended at once", 0, -5, 1, 0, 8);
        x.plateau(t + 1, -5, 40, 2, 2, 0);
        duePlateau(x, "BAD leaves it", 0, -5, 1, 0, 8);
        Rooms.tell(x, 0, "1");
        x.step(t);
        x.plateau(t, -5, 40, 2, 2, 0);
        c.due("STATE", x.status(), STATE);
        duePlateau(x, "STATE leaves it", 0, -5, 1, 0, 8);
        int u = x.test(0, 0, 0, 2);
        x.rule(u, 5, 1);
        x.rule(u, 4, 1);
        Rooms.tell(x, 0, "0101");
        x.plateau(u, 7, 3, 2, 2, 0);
        duePlateau(x, "known again", 1, 10, 2, 4, 0);
    }

    /** BAD; STATE: no tone was answered. */
    private static void replayArguments() {
        busy.outside("replay(test)", 0, 3, (x, v) -> x.replay(v));
        busy.refused("replay(2)", STATE, x -> x.replay(UNBEGUN));
        busy.letBy("replay(0)", 1, x -> x.replay(0));
        busy.letBy("replay(1)", 1, x -> x.replay(GOING));
        busy.letBy("replay(3)", 1, x -> x.replay(3));
        HearingRoom x = new HearingRoom();
        int t = quick(x, "");
        x.step(t);
        c.dueRefused(x, "a step without an answer", x.replay(t), STATE);
        Rooms.tell(x, 0, "1");
        x.step(t);
        c.due("one answer", x.replay(t), 1);
    }

    private static Edges changed(Edges.Call change) {
        return new Edges(c, () -> {
            HearingRoom x = Rooms.busy();
            change.on(x);
            x.tone(0, 99);
            return x;
        });
    }

    /** FINDINGS: they end it, and change nothing but TRACE, and what was BEGUN and SILENCED. */
    private static void replayFindings() {
        Edges.Call replay = x -> x.replay(GOING);
        changed(x -> x.plug(0, false)).found("replay(1)", 1, 1, replay);
        changed(x -> x.row(0, -1)).found("replay(1)", 2, 1, replay);
        changed(x -> x.row(0, 5)).found("replay(1)", 3, 1, replay);
        changed(x -> x.calibrate(0, 5, 0, 0)).found("replay(1)", 4, 1, replay);
        changed(x -> x.calibrate(0, 5, 1, 0)).found("replay(1)", 5, 1, replay);
        changed(x -> x.calibrate(0, 5, 71, 1)).found("replay(1)", 6, 1, replay);
        HearingRoom x = new HearingRoom();
        int t = made(x, "0111");
        x.run(t, 4);
        x.calibrate(0, 2, 51, 1);
        c.dueFinding(x, "60 is LOUD, 40 is not", x.replay(t), 6);
        c.dueTrace(x, "LOUD at the second tone", 1, 1);
        c.due("begun", x.silent(0), 6);
        c.due("silenced", x.silent(1), 6);
        x.calibrate(0, 2, 50, 1);
        c.due("110.0 is not LOUD", x.replay(t), 1);
        HearingRoom y = new HearingRoom();
        int u = y.test(Rooms.ready(y, 3), Rooms.reciter(y, "10"), 0, 0);
        y.run(u, 2);
        c.due("a FIELD without noise", y.replay(u), 1);
        y.noise(u, -20);
        c.dueFinding(y, "UNFIT", y.replay(u), 7);
        c.dueTrace(y, "UNFIT");
    }

    /** A TEST's kept answers once more, as many STEPS as there are .. as a SCRIPT: 1. */
    private static void replayAsManySteps() {
        HearingRoom x = new HearingRoom();
        int l = x.listener(1);
        int t = x.test(Rooms.ready(x, 0), l, 0, 0);
        x.rule(t, 6, 200);
        x.rule(t, 1, 0);
        x.run(t, 200);
        c.due("200 answers", x.replay(t), 1);
        c.due("status()", x.status(), 0);
        c.due("finding()", x.finding(), 0);
        c.due("begun", x.silent(0), 400);
        c.due("silenced", x.silent(1), 400);
        c.due("the listener was not asked", x.listenerOf(l, 2), 200);
        for (int k = 0; k < 60; k++) c.due("trace(" + k + ")", x.trace(k), 1);
        c.due("trace(60)", x.trace(60), NOTHING);
        HearingRoom y = new HearingRoom();
        int u = made(y, "1010101", 9, 3);
        for (int k = 1; k <= 7; k++) {
            y.step(u);
            int before = y.silent(0);
            long digest = y.digest();
            c.due("replay of " + k, y.replay(u), 1);
            c.due("steps of " + k, y.silent(0) - before, k);
            c.due("silenced of " + k, y.silent(1) - before, k);
            c.due("digest() of " + k, y.digest(), digest);
            c.due("told(u, 1) of " + k, y.told(u, 1), k);
        }
    }

    /** The NOISE as it is now. */
    private static void replayWithTheNoiseNow() {
        HearingRoom x = new HearingRoom();
        int t = made(x, "100");
        x.noise(t, 10);
        x.run(t, 3);
        c.due("with noise", x.replay(t), 1);
        c.dueTrace(x, "with noise", 10, 1, 10, 1, 10, 1);
        x.noise(t, NOTHING);
        c.due("without", x.replay(t), 1);
        c.dueTrace(x, "without", 1, 1, 1);
        x.noise(t, 120);
        x.plug(0, false);
        c.dueFinding(x, "UNPLUGGED by masking", x.replay(t), 1);
        c.dueTrace(x, "UNPLUGGED by masking");
    }
}
