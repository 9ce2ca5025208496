/** Boundary cases that the document names of steps and runs (4 TESTS, promises 17 and 18); each comment is the sentence. */
public final class StepEdgesTest {
    private static final int NOTHING = -1000, BAD = -1001, STATE = -1003;
    private static final int ENDED = 0, GOING = 1, ENDED_BY_MOST = 3;
    private static final Check c = new Check("StepEdgesTest");
    private static final Edges busy = new Edges(c, Rooms::busy);

    public static void main(String[] args) {
        stepArguments();
        everyFindingChangesNothing();
        findingsKeepTheNumber();
        everyKthIsSilent();
        silentDrivesNothing();
        noiseMasksFirst();
        begunIsSilenced();
        firstAnswerIsNoTurn();
        silentAnswersAreNoTurns();
        firstUntilATurn();
        stepsOf0And60();
        notBelowLowNorAboveHigh();
        hitsAtTheEndsAlone();
        hitsAreSetBack();
        silentOnesLeaveHits();
        endsByTurns();
        endsByHits();
        endsByMost();
        theFirstOfThese();
        runArguments();
        runStops();
        c.end();
    }

    /** A test of a ready phone by script, with rules in pairs of what and v, told in that order. */
    private static int made(HearingRoom x, String answers, int... whatAndV) {
        int t = Rooms.recited(x, answers);
        for (int i = 0; i + 1 < whatAndV.length; i += 2) x.rule(t, whatAndV[i], whatAndV[i + 1]);
        return t;
    }

    /** A STEP: 1 yes, 0 no. BAD; STATE: it is ENDED. */
    private static void stepArguments() {
        busy.outside("step(test)", 0, 3, (x, v) -> x.step(v));
        busy.refused("step(0)", STATE, x -> x.step(ENDED));
        busy.refused("step(3)", STATE, x -> x.step(ENDED_BY_MOST));
        busy.letBy("step(1)", Rooms.busy().step(GOING), x -> x.step(GOING));
        HearingRoom x = new HearingRoom();
        c.dueBad(x, "step(0) without any", x.step(0));
        int t = made(x, "10");
        c.due("yes", x.step(t), 1);
        c.due("no", x.step(t), 0);
    }

    private static Edges changed(Edges.Call change) {
        return new Edges(c, () -> {
            HearingRoom x = Rooms.busy();
            change.on(x);
            x.tone(0, 99);
            return x;
        });
    }

    /** A FINDING: all stays as it was, but what is BEGUN and SILENCED. */
    private static void everyFindingChangesNothing() {
        Edges.Call step = x -> x.step(GOING);
        changed(x -> x.plug(0, false)).found("step(1)", 1, 1, step);
        changed(x -> x.row(0, -1)).found("step(1)", 2, 1, step);
        changed(x -> x.row(0, 5)).found("step(1)", 3, 1, step);
        changed(x -> x.calibrate(0, 5, 0, 0)).found("step(1)", 4, 1, step);
        changed(x -> x.calibrate(0, 5, -1, 0)).found("step(1)", 5, 1, step);
        changed(x -> x.calibrate(0, 5, 200, 1)).found("step(1)", 6, 1, step);
        changed(x -> x.noise(x.test(3, 1, 0, 5), 0)).found("step(4) of a FIELD in noise", 7, 1, x -> x.step(4));
        changed(x -> x.test(0, x.listener(0), 0, 5)).found("step(4) of an empty script", 8, 1, x -> x.step(4));
        changed(x -> x.plug(4, false)).found("step(2) of a PAIR", 1, 1, x -> x.step(2));
        changed(x -> x.plug(1, false)).found("step(2) of a PAIR that masks by it", 1, 1, x -> x.step(2));
        changed(x -> x.plug(3, false)).found("step(2) of a PAIR driven by it", 1, 1, x -> x.step(2));
        // of several the first one: masking is looked at ahead of driving, driving ahead of the listener
        HearingRoom x = new HearingRoom();
        int t = x.test(x.device(0, 0, 0), x.listener(0), 0, 0);
        c.dueFinding(x, "UNPLUGGED, LACKING, UNREADY", x.step(t), 1);
        x.plug(0, true);
        c.dueFinding(x, "LACKING, UNREADY", x.step(t), 2);
        x.row(0, 1);
        c.dueFinding(x, "UNREADY", x.step(t), 8);
        HearingRoom y = new HearingRoom();
        int u = y.test(y.device(3, 0, 0), y.listener(0), 0, 0);
        y.noise(u, 0);
        c.dueFinding(y, "UNFIT ahead of all", y.step(u), 7);
    }

    /** Tone number k (from 1) is BEGUN: one that came to a FINDING has the same number once more. */
    private static void findingsKeepTheNumber() {
        HearingRoom x = new HearingRoom();
        int t = made(x, "1", 9, 2);
        x.step(t);
        c.dueFinding(x, "the silent one", x.step(t), 8);
        c.dueFinding(x, "the silent one again", x.step(t), 8);
        Rooms.tell(x, 0, "01");
        c.due("the silent one at last", x.step(t), 0);
        c.due("tone(t, 1)", x.tone(t, 1), NOTHING);
        x.plug(0, false);
        c.dueFinding(x, "the third one", x.step(t), 1);
        x.plug(0, true);
        c.due("the third one at last", x.step(t), 1);
        c.due("tone(t, 2)", x.tone(t, 2), 20);
        c.due("two are there", x.told(t, 6), 1);
    }

    /** If CATCH is above 0 and k a multiple of it, it is SILENT. */
    private static void everyKthIsSilent() {
        for (int every = 0; every <= 20; every++) {
            if (every == 1) continue;
            HearingRoom x = new HearingRoom();
            int d = Rooms.ready(x, 0);
            int t = x.test(d, x.listener(1), 0, 0);
            x.rule(t, 9, every);
            x.rule(t, 1, 0);
            x.rule(t, 6, 200);
            c.due("200 tones", x.run(t, 200), 200);
            for (int k = 1; k <= 200; k++) {
                boolean silent = every > 0 && k % every == 0;
                c.due("tone " + k + " with CATCH " + every, x.tone(t, k - 1), silent ? NOTHING : 40);
            }
            c.due("SILENT ones", x.told(t, 6), every == 0 ? 0 : 200 / every);
        }
    }

    /** It is SILENT: nothing is driven. */
    private static void silentDrivesNothing() {
        for (int kind = 0; kind <= 4; kind++) {
            HearingRoom x = new HearingRoom();
            int d = Rooms.ready(x, 0);
            int other = x.device(kind, 0, 0);
            x.plug(other, true);
            x.row(other, 1);
            int t = x.test(other, Rooms.reciter(x, "111"), 0, 0);
            x.rule(t, 9, 2);
            c.due("the first", x.step(t), 1);
            x.plug(other, false);
            x.plug(d, false);
            x.noise(t, 40);
            c.due("the silent one", x.step(t), 1);
            c.dueTrace(x, "silent");
            c.due("begun", x.silent(0), 2);
            c.due("silenced", x.silent(1), 2);
            c.dueFinding(x, "the third", x.step(t), kind == 3 ? 7 : 1);
        }
    }

    /** Else, with NOISE, the DEVICE masks (UNFIT); then it is driven. */
    private static void noiseMasksFirst() {
        int[] noises = {-20, 0, 120};
        for (int noise : noises) {
            HearingRoom x = new HearingRoom();
            int t = made(x, "1111");
            x.noise(t, noise);
            x.step(t);
            c.dueTrace(x, "noise " + noise, 10, 1);
            x.noise(t, NOTHING);
            x.step(t);
            c.dueTrace(x, "no noise", 1);
        }
    }

    /** Whatever comes, what was BEGUN is SILENCED then. */
    private static void begunIsSilenced() {
        HearingRoom x = Rooms.busy();
        int before = x.silent(0);
        c.due("silenced at first", x.silent(1), before);
        x.step(GOING);
        x.step(ENDED);
        x.step(99);
        x.run(GOING, 0);
        x.run(GOING, 2);
        x.plug(0, false);
        x.step(GOING);
        x.run(GOING, 5);
        x.drive(0, 0, 0, 0);
        c.due("begun", x.silent(0), before + 5);
        c.due("silenced", x.silent(1), before + 5);
        c.due("sounding", x.silent(2), 0);
    }

    /** If there was an answer before to one not SILENT, and it was the other one, that is a TURN, at this LEVEL. */
    private static void firstAnswerIsNoTurn() {
        for (int first = 0; first < 2; first++) {
            HearingRoom x = new HearingRoom();
            int t = made(x, first == 1 ? "110" : "001");
            x.step(t);
            c.due("no turn at the first", x.told(t, 2), 0);
            x.step(t);
            c.due("nor at the same", x.told(t, 2), 0);
            int level = x.told(t, 0);
            x.step(t);
            c.due("a turn at the other", x.told(t, 2), 1);
            c.due("at this level", x.turn(t, 0), level);
        }
    }

    /** An answer before to one not SILENT: answers to SILENT ones make no TURN and are none. */
    private static void silentAnswersAreNoTurns() {
        HearingRoom x = new HearingRoom();
        int t = made(x, "10" + "10" + "01", 9, 2);
        x.run(t, 2);
        c.due("a silent no behind yes", x.told(t, 2), 0);
        c.due("the level stays behind a silent one", x.told(t, 0), 20);
        x.run(t, 2);
        c.due("yes behind a silent no", x.told(t, 2), 0);
        c.due("level", x.told(t, 0), 0);
        x.run(t, 1);
        c.due("no behind the yes before it", x.told(t, 2), 1);
        x.run(t, 1);
        c.due("a silent yes", x.told(t, 2), 1);
        c.due("is FALSE", x.told(t, 5), 1);
        c.due("of three", x.told(t, 6), 3);
        c.due("level", x.told(t, 0), 5);
    }

    /** On yes the LEVEL falls by DOWN, on no it rises by UP, as long as there was no TURN (this one counts) by FIRST. */
    private static void firstUntilATurn() {
        HearingRoom x = new HearingRoom();
        int t = made(x, "11011", 1, 13, 2, 7, 3, 3);
        int[] levels = {27, 14, 17, 10, 3};
        for (int i = 0; i < levels.length; i++) {
            x.step(t);
            c.due("falling, " + i, x.told(t, 0), levels[i]);
        }
        HearingRoom y = new HearingRoom();
        int u = made(y, "00100", 1, 13, 2, 7, 3, 3);
        int[] rising = {53, 66, 59, 62, 65};
        for (int i = 0; i < rising.length; i++) {
            y.step(u);
            c.due("rising, " + i, y.told(u, 0), rising[i]);
        }
    }

    /** FIRST, DOWN, UP (0 .. 60). */
    private static void stepsOf0And60() {
        HearingRoom x = new HearingRoom();
        int t = made(x, "1101", 7, -20, 8, 120, 1, 0, 2, 60, 3, 60);
        int[] levels = {40, 40, 100, 40};
        for (int level : levels) {
            x.step(t);
            c.due("FIRST 0, UP and DOWN 60", x.told(t, 0), level);
        }
        HearingRoom y = new HearingRoom();
        int u = made(y, "0101", 7, -20, 8, 120, 1, 60, 2, 0, 3, 0);
        int[] then = {100, 100, 100, 100};
        for (int level : then) {
            y.step(u);
            c.due("FIRST 60, UP and DOWN 0", y.told(u, 0), level);
        }
    }

    private static int levelAfter(String answers, int start, int low, int high, int first) {
        HearingRoom x = new HearingRoom();
        int t = made(x, answers, 7, -20, 8, 120, 0, start, 7, low, 8, high, 1, first);
        x.run(t, answers.length());
        return x.told(t, 0);
    }

    /** Not below LOW, above HIGH. */
    private static void notBelowLowNorAboveHigh() {
        c.due("just to LOW", levelAfter("1", 40, 20, 100, 20), 20);
        c.due("one above LOW", levelAfter("1", 40, 19, 100, 20), 20);
        c.due("one too far", levelAfter("1", 40, 21, 100, 20), 21);
        c.due("at LOW already", levelAfter("1", 40, 40, 100, 20), 40);
        c.due("to the lowest level", levelAfter("11", 40, -20, 100, 60), -20);
        c.due("just to HIGH", levelAfter("0", 40, -10, 60, 20), 60);
        c.due("one below HIGH", levelAfter("0", 40, -10, 61, 20), 60);
        c.due("one too far", levelAfter("0", 40, -10, 59, 20), 59);
        c.due("at HIGH already", levelAfter("0", 40, -10, 40, 20), 40);
        c.due("to the highest level", levelAfter("0", 110, -10, 120, 60), 120);
        c.due("UP beyond HIGH", levelAfter("10", 86, 85, 86, 60), 86);
        c.due("DOWN beyond LOW", levelAfter("01", 85, 85, 86, 60), 85);
        c.due("UP just to HIGH", levelAfter("10", 85, 80, 85, 60), 85);
        c.due("DOWN just to LOW", levelAfter("01", 80, 80, 90, 60), 80);
    }

    private static int hitsAfter(String answers, int start, int low, int high) {
        HearingRoom x = new HearingRoom();
        int t = made(x, answers, 7, -20, 8, 120, 0, start, 7, low, 8, high, 1, 0);
        x.run(t, answers.length());
        return x.told(t, 8);
    }

    /** yes at LOW, no at HIGH is a HIT. */
    private static void hitsAtTheEndsAlone() {
        c.due("yes at LOW", hitsAfter("1", 40, 40, 100), 1);
        c.due("yes one above LOW", hitsAfter("1", 40, 39, 100), 0);
        c.due("no at LOW", hitsAfter("0", 40, 40, 100), 0);
        c.due("no at HIGH", hitsAfter("0", 40, -10, 40), 1);
        c.due("no one below HIGH", hitsAfter("0", 40, -10, 41), 0);
        c.due("yes at HIGH", hitsAfter("1", 40, -10, 40), 0);
        c.due("two at LOW", hitsAfter("11", 40, 40, 100), 2);
        c.due("two at HIGH", hitsAfter("00", 40, -10, 40), 2);
        c.due("yes where LOW is HIGH", hitsAfter("1", 40, 40, 40), 1);
        c.due("no where LOW is HIGH", hitsAfter("0", 40, 40, 40), 1);
        c.due("one of each there", hitsAfter("10", 40, 40, 40), 2);
        c.due("at the lowest level", hitsAfter("1", -20, -20, 100), 1);
        c.due("at the highest level", hitsAfter("0", 100, -20, 100), 1);
    }

    /** Another answer to one not SILENT sets HITS back to 0. */
    private static void hitsAreSetBack() {
        HearingRoom x = new HearingRoom();
        int t = made(x, "1011", 7, 40, 2, 5);
        int[] hits = {1, 0, 0, 1};
        for (int i = 0; i < 4; i++) {
            x.step(t);
            c.due("hits at LOW, " + i, x.told(t, 8), hits[i]);
            c.due("not ENDED", x.told(t, 3), 0);
        }
        HearingRoom y = new HearingRoom();
        int u = made(y, "0100", 8, 40, 2, 5);
        for (int i = 0; i < 4; i++) {
            y.step(u);
            c.due("hits at HIGH, " + i, y.told(u, 8), hits[i]);
            c.due("not ENDED", y.told(u, 3), 0);
        }
    }

    /** Another answer to one not SILENT: SILENT ones leave HITS, whatever is answered. */
    private static void silentOnesLeaveHits() {
        for (int answer = 0; answer < 2; answer++) {
            HearingRoom x = new HearingRoom();
            int t = made(x, "1" + answer + "1", 7, 40, 9, 2);
            x.run(t, 2);
            c.due("one hit", x.told(t, 8), 1);
            c.due("not ENDED", x.told(t, 3), 0);
            x.step(t);
            c.due("two hits running", x.told(t, 8), 2);
            c.due("ENDED", x.told(t, 3), 2);
        }
    }

    /** ENDED, the first of these: 1 as many TURNS as told. */
    private static void endsByTurns() {
        int[] many = {1, 2, 6, 20};
        for (int turns : many) {
            HearingRoom x = new HearingRoom();
            int t = made(x, "1010101010101010101010", 4, 20, 5, 1, 4, turns, 2, 1, 3, 1);
            c.due("one turn short", x.run(t, turns), turns);
            c.due("told(t, 3)", x.told(t, 3), 0);
            c.due("told(t, 2)", x.told(t, 2), turns - 1);
            x.step(t);
            c.due("told(t, 3) then", x.told(t, 3), 1);
            c.due("told(t, 2) then", x.told(t, 2), turns);
            c.due("the last turn", x.turn(t, turns - 1), x.tone(t, turns));
            c.dueRefused(x, "STATE", x.step(t), STATE);
        }
    }

    /** 2 two HITS running (BEYOND is -1, if the second one was yes, else 1). */
    private static void endsByHits() {
        String[] answers = {"11", "00", "10", "01"};
        int[] beyond = {-1, 1, 1, -1};
        for (int i = 0; i < 4; i++) {
            HearingRoom x = new HearingRoom();
            int t = made(x, answers[i], 7, 40, 8, 40);
            x.step(t);
            c.due("one hit does not end it", x.told(t, 3), 0);
            c.due("BEYOND at first", x.told(t, 4), 0);
            x.step(t);
            c.due("two do", x.told(t, 3), 2);
            c.due("BEYOND by " + answers[i], x.told(t, 4), beyond[i]);
        }
    }

    /** 3 MOST tones. */
    private static void endsByMost() {
        int[] many = {1, 2, 199, 200};
        for (int most : many) {
            HearingRoom x = new HearingRoom();
            int d = Rooms.ready(x, 0);
            int t = x.test(d, x.listener(1), 0, 0);
            x.rule(t, 1, 0);
            x.rule(t, 6, most);
            c.due("one tone short", x.run(t, most - 1), most - 1);
            c.due("told(t, 3)", x.told(t, 3), 0);
            x.step(t);
            c.due("told(t, 3) then", x.told(t, 3), 3);
            c.due("told(t, 4) then", x.told(t, 4), 0);
            c.due("the last tone", x.tone(t, most - 1), 40);
            c.dueRefused(x, "STATE", x.run(t, 200), STATE);
        }
        // SILENT ones are tones, and may be the last
        HearingRoom x = new HearingRoom();
        int t = made(x, "1111", 6, 2, 9, 2);
        c.due("with a silent one", x.run(t, 200), 2);
        c.due("ENDED by MOST", x.told(t, 3), 3);
    }

    private static int endOf(String answers, int... whatAndV) {
        HearingRoom x = new HearingRoom();
        int t = made(x, answers, whatAndV);
        c.due("all answers", x.run(t, 200), answers.length());
        return x.told(t, 3) * 10 + x.told(t, 4);
    }

    /** ENDED, the first of these. */
    private static void theFirstOfThese() {
        c.due("turns and hits", endOf("10", 7, 40, 8, 40, 5, 1, 4, 1), 10);
        c.due("turns and MOST", endOf("10", 6, 2, 5, 1, 4, 1), 10);
        c.due("turns, hits and MOST", endOf("10", 7, 40, 8, 40, 6, 2, 5, 1, 4, 1), 10);
        c.due("hits and MOST", endOf("11", 7, 40, 6, 2), 19);
        c.due("hits and MOST the other way", endOf("00", 8, 40, 6, 2), 21);
        c.due("MOST alone", endOf("1", 7, 40, 6, 1), 30);
    }

    /** n (0 .. 200) were answered: how many. .. BAD; STATE: it is ENDED. */
    private static void runArguments() {
        busy.range("run(1, n)", 0, 200, (x, v) -> x.run(GOING, v));
        busy.outside("run(test, 1)", 0, 3, (x, v) -> x.run(v, 1));
        busy.refused("run(0, 0)", STATE, x -> x.run(ENDED, 0));
        busy.refused("run(3, 200)", STATE, x -> x.run(ENDED_BY_MOST, 200));
        busy.refused("run(0, 201)", BAD, x -> x.run(ENDED, 201));
        busy.refused("run(0, -1)", BAD, x -> x.run(ENDED, -1));
        HearingRoom x = Rooms.busy();
        c.due("run(1, 0)", x.run(GOING, 0), 0);
        c.due("finding() behind it", x.finding(), 0);
        c.dueTrace(x, "run(1, 0) empties TRACE");
        c.due("told(1, 1)", x.told(GOING, 1), 4);
    }

    /** STEPS until the TEST is ENDED, a FINDING comes, or n were answered. (.. finding() tells it, status() is 0.) */
    private static void runStops() {
        HearingRoom x = new HearingRoom();
        int t = made(x, "111");
        c.due("just as many as there are", x.run(t, 3), 3);
        c.due("no finding", x.finding(), 0);
        c.due("findings(8)", x.findings(8), 0);
        c.due("none is left", x.run(t, 1), 0);
        c.due("finding()", x.finding(), 8);
        c.due("status()", x.status(), 0);
        c.due("findings(8) then", x.findings(8), 1);
        c.due("begun", x.silent(0), 4);
        c.due("silenced", x.silent(1), 4);
        c.dueTrace(x, "a finding of the listener", 1);
        Rooms.tell(x, 0, "11111");
        c.due("to the end", x.run(t, 200), 2);
        c.due("ENDED by hits", x.told(t, 3), 2);
        c.due("no finding then", x.finding(), 0);
        HearingRoom y = new HearingRoom();
        int u = made(y, "1111111", 7, 20);
        c.due("the end and n at once", y.run(u, 3), 3);
        c.due("ENDED", y.told(u, 3), 2);
        HearingRoom z = new HearingRoom();
        int w = made(z, "1111");
        z.plug(0, false);
        c.due("a finding at once", z.run(w, 200), 0);
        c.due("finding() of it", z.finding(), 1);
        c.due("status() of it", z.status(), 0);
        c.due("nothing is kept", z.told(w, 1), 0);
        c.due("the listener was not asked", z.listenerOf(0, 2), 0);
        z.plug(0, true);
        z.row(0, 2);
        z.rule(w, 9, 2);
        c.due("a finding at once of the row", z.run(w, 200), 0);
        c.due("finding() of that", z.finding(), 3);
    }
}
