/**
 * Boundary cases that the document names of what is told (promises 41 to 47), of a new object (promise 1), of
 * refusals, and of the 512 calls that an object stands; each comment is the sentence.
 */
public final class ToldEdgesTest {
    private static final int NOTHING = -1000, BAD = -1001, FULL = -1002, STATE = -1003;
    private static final Check c = new Check("ToldEdgesTest");
    private static final Edges busy = new Edges(c, Rooms::busy);
    private static final Edges empty = new Edges(c, HearingRoom::new);

    public static void main(String[] args) {
        nothingIsThere();
        nothingIsTold();
        silentArguments();
        inAllBegun();
        findingsArguments();
        inAllFindings();
        findingOfTheLatest();
        traceArguments();
        firstSixtyAreKept();
        traceOfTheLatest();
        countArguments();
        whyTheLatestWasRefused();
        theFirstThatFits();
        digestWraps();
        digestOfFullRooms();
        upTo512Calls();
        c.end();
    }

    /** Nothing is there. */
    private static void nothingIsThere() {
        empty.refused("plug(0, true)", BAD, x -> x.plug(0, true));
        empty.refused("row(0, 0)", BAD, x -> x.row(0, 0));
        empty.refused("calibrate(0, 0, 1, 1)", BAD, x -> x.calibrate(0, 0, 1, 1));
        empty.refused("offset(0, 0)", BAD, x -> x.offset(0, 0));
        empty.refused("drive(0, 0, 0, 0)", BAD, x -> x.drive(0, 0, 0, 0));
        empty.refused("kindOf(0, 0)", BAD, x -> x.kindOf(0, 0));
        empty.refused("script(0, 0, 1)", BAD, x -> x.script(0, 0, 1));
        empty.refused("limen(0, 0, 0, 0)", BAD, x -> x.limen(0, 0, 0, 0));
        empty.refused("seed(0, 0, 0)", BAD, x -> x.seed(0, 0, 0));
        empty.refused("listenerOf(0, 0)", BAD, x -> x.listenerOf(0, 0));
        empty.refused("test(0, 0, 0, 0)", BAD, x -> x.test(0, 0, 0, 0));
        empty.refused("rule(0, 0, 0)", BAD, x -> x.rule(0, 0, 0));
        empty.refused("noise(0, 0)", BAD, x -> x.noise(0, 0));
        empty.refused("step(0)", BAD, x -> x.step(0));
        empty.refused("run(0, 0)", BAD, x -> x.run(0, 0));
        empty.refused("told(0, 0)", BAD, x -> x.told(0, 0));
        empty.refused("tone(0, 0)", BAD, x -> x.tone(0, 0));
        empty.refused("answer(0, 0)", BAD, x -> x.answer(0, 0));
        empty.refused("turn(0, 0)", BAD, x -> x.turn(0, 0));
        empty.refused("threshold(0)", BAD, x -> x.threshold(0));
        empty.refused("rate(0)", BAD, x -> x.rate(0));
        empty.refused("unsure(0)", BAD, x -> x.unsure(0));
        empty.refused("plateau(0, 0, 1, 2, 2, 0)", BAD, x -> x.plateau(0, 0, 1, 2, 2, 0));
        empty.refused("replay(0)", BAD, x -> x.replay(0));
        empty.refused("enter(0, 0)", BAD, x -> x.enter(0, 0));
        empty.refused("put(0, 0, 0, 0, 0.0)", BAD, x -> x.put(0, 0, 0, 0, 0L));
        empty.refused("at(0, 0, 0, 0)", BAD, x -> x.at(0, 0, 0, 0));
        empty.refused("between(0, 0, 0, 0)", BAD, x -> x.between(0, 0, 0, 0));
        empty.refused("marked(0, 0, 0, 0)", BAD, x -> x.marked(0, 0, 0, 0));
        empty.refused("mean(0, 0, 0, 0)", BAD, x -> x.mean(0, 0, 0, 0));
        empty.refused("lacking(0, 0, 0, 0)", BAD, x -> x.lacking(0, 0, 0, 0));
        empty.refused("gap(0, 0, 0)", BAD, x -> x.gap(0, 0, 0));
        empty.refused("change(0, 0, 0, 0, 0, 0)", BAD, x -> x.change(0, 0, 0, 0, 0, 0));
        empty.refused("compare(0, 0, 0, 0, 0)", BAD, x -> x.compare(0, 0, 0, 0, 0));
        empty.refused("order(0, 0, 0, 0)", BAD, x -> x.order(0, 0, 0, 0));
    }

    private static void nothingIsTold() {
        HearingRoom x = new HearingRoom();
        c.due("status()", x.status(), 0);
        c.due("finding()", x.finding(), 0);
        for (int what = 0; what < 3; what++) c.due("silent(" + what + ")", x.silent(what), 0);
        for (int f = 1; f <= 9; f++) c.due("findings(" + f + ")", x.findings(f), 0);
        for (int what = 0; what < 4; what++) c.due("count(" + what + ")", x.count(what), 0);
        c.due("trace(0)", x.trace(0), NOTHING);
        c.due("digest()", x.digest(), 17);
        empty.letBy("device(0, 0, 0)", 0, r -> r.device(0, 0, 0));
        empty.letBy("listener(0)", 0, r -> r.listener(0));
        empty.letBy("chart()", 0, r -> r.chart());
        // two objects have nothing in common
        HearingRoom y = new HearingRoom();
        x.device(0, 0, 0);
        x.chart();
        x.row(7, 7);
        c.due("count(0) of another", y.count(0), 0);
        c.due("count(3) of another", y.count(3), 0);
        c.due("status() of another", y.status(), 0);
    }

    /** Tones that were BEGUN (what = 0), SILENCED (1), in all; how many sound now (2). BAD. */
    private static void silentArguments() {
        busy.outside("silent(what)", 0, 2, (x, v) -> x.silent(v));
        HearingRoom x = Rooms.busy();
        int begun = x.silent(0);
        c.due("some were begun", begun > 0 ? 1 : 0, 1);
        c.due("silent(1)", x.silent(1), begun);
        c.due("silent(2)", x.silent(2), 0);
    }

    /** In all: of steps, runs, plateaus and replays, SILENT ones and those of FINDINGS, too. */
    private static void inAllBegun() {
        HearingRoom x = new HearingRoom();
        int t = Rooms.recited(x, "10101" + "10" + "10");
        x.rule(t, 9, 2);
        x.step(t);
        c.due("a step", x.silent(0), 1);
        x.run(t, 3);
        c.due("three of a run", x.silent(0), 4);
        x.run(t, 0);
        c.due("none of a run", x.silent(0), 4);
        x.replay(t);
        c.due("four of a replay", x.silent(0), 8);
        x.plug(0, false);
        x.step(t);
        c.due("a finding", x.silent(0), 9);
        x.plug(0, true);
        x.step(t);
        int u = x.test(0, 0, 0, 0);
        x.rule(u, 5, 1);
        x.rule(u, 4, 1);
        int before = x.silent(0);
        x.plateau(u, 0, 1, 2, 2, 0);
        c.due("four of a plateau", x.silent(0) - before, 4);
        x.plateau(u, 0, 1, 2, 2, 0);
        c.due("a finding of a plateau", x.silent(0) - before, 5);
        c.due("all are silenced", x.silent(1), x.silent(0));
    }

    /** How often a FINDING (1 .. 9) came, in all. BAD. */
    private static void findingsArguments() {
        busy.outside("findings(finding)", 1, 9, (x, v) -> x.findings(v));
        busy.refused("findings(0)", BAD, x -> x.findings(0));
        busy.refused("findings(10)", BAD, x -> x.findings(10));
    }

    private static void inAllFindings() {
        HearingRoom x = new HearingRoom();
        x.device(0, 0, 0);
        x.device(4, 0, 0);
        x.listener(0);
        int t = x.test(0, 0, 0, 1);
        x.drive(0, 0, 1, 0);
        x.plug(0, true);
        x.drive(0, 0, 1, 0);
        x.row(0, 1);
        x.drive(0, 0, 1, 0);
        x.row(0, 2);
        x.calibrate(0, 1, 0, 0);
        x.drive(0, 0, 1, 0);
        x.calibrate(0, 1, 1, 0);
        x.drive(0, 0, 1, 0);
        x.calibrate(0, 1, 200, 1);
        x.drive(0, 0, 1, 0);
        x.row(1, 1);
        x.tone(t, 0);
        x.rate(t);
        for (int f = 1; f <= 9; f++) c.due("findings(" + f + ") once", x.findings(f), 1);
        x.run(t, 5);
        x.plateau(t, 0, 1, 2, 2, 0);
        c.due("those of runs and plateaus count", x.findings(6), 3);
        x.run(t, 0);
        x.step(9);
        x.finding();
        c.due("nothing else does", x.findings(6), 3);
    }

    /** The FINDING of the latest ..; 0: none (also where that was BAD, STATE). */
    private static void findingOfTheLatest() {
        HearingRoom x = Rooms.busy();
        c.due("of tone()", x.finding(), 8);
        c.due("finding() leaves it", x.finding(), 8);
        x.rate(2);
        c.due("of rate()", x.finding(), 9);
        x.row(4, 1);
        c.due("of row()", x.finding(), 7);
        x.step(0);
        c.due("of step(), STATE", x.finding(), 0);
        x.offset(2, 0);
        c.due("of offset()", x.finding(), 2);
        x.replay(2);
        c.due("of replay(), STATE", x.finding(), 0);
        x.calibrate(1, 6, 1, 1);
        c.due("of calibrate()", x.finding(), 3);
        x.plateau(1, 0, 1, 2, 2, 0);
        c.due("of plateau(), STATE", x.finding(), 0);
        x.unsure(2);
        c.due("of unsure()", x.finding(), 9);
        x.run(3, 1);
        c.due("of run(), STATE", x.finding(), 0);
        x.drive(0, 0, 2, 0);
        c.due("of drive()", x.finding(), 4);
        x.run(1, 0);
        c.due("of run() without steps", x.finding(), 0);
        x.turn(1, 99);
        x.answer(1, 0);
        c.due("of answer()", x.finding(), 0);
        x.plug(0, false);
        x.run(1, 3);
        c.due("of run()", x.finding(), 1);
        x.plateau(2, 0, 41, 2, 2, 0);
        c.due("of plateau(), BAD", x.finding(), 0);
        x.replay(1);
        c.due("of replay()", x.finding(), 1);
        x.rule(0, 0, 0);
        x.noise(0, 0);
        x.enter(0, 1);
        c.due("STATE of others leaves it", x.finding(), 1);
    }

    /** Number k of TRACE. NOTHING: not so many. */
    private static void traceArguments() {
        HearingRoom x = Rooms.busy();
        int[] bodies = {5, 2, 1};
        for (int k = 0; k < 3; k++) c.due("trace(" + k + ")", x.trace(k), bodies[k]);
        int[] none = {3, 4, 59, 60, 61, -1, -2, Integer.MIN_VALUE, Integer.MAX_VALUE};
        for (int k : none) c.due("trace(" + k + ")", x.trace(k), NOTHING);
        c.due("status() is left", x.status(), -108);
    }

    /** The first 60 are kept. */
    private static void firstSixtyAreKept() {
        int[] many = {19, 20, 21};
        for (int tones : many) {
            HearingRoom x = new HearingRoom();
            int t = x.test(Rooms.ready(x, 2), x.listener(1), 0, 0);
            x.rule(t, 1, 0);
            c.due("tones", x.run(t, tones), tones);
            c.due("trace(56)", x.trace(56), 1);
            c.due("trace(57)", x.trace(57), tones > 19 ? 3 : NOTHING);
            c.due("trace(59)", x.trace(59), tones > 19 ? 1 : NOTHING);
            c.due("trace(60)", x.trace(60), NOTHING);
        }
        HearingRoom x = new HearingRoom();
        Rooms.ready(x, 2);
        int pair = x.device(4, 0, 0);
        x.plug(pair, true);
        int t = x.test(pair, x.listener(1), 0, 0);
        x.rule(t, 1, 0);
        x.noise(t, 0);
        x.run(t, 60);
        int[] each = {11, 10, 5, 3, 2, 1};
        for (int k = 0; k < 60; k++) c.due("trace(" + k + ") of a pair", x.trace(k), each[k % 6]);
        c.due("trace(60) of a pair", x.trace(60), NOTHING);
    }

    /** The latest drive(), step(), run(), plateau(), replay() that was not BAD or STATE. */
    private static void traceOfTheLatest() {
        HearingRoom x = Rooms.busy();
        x.drive(0, 0, 24, 0);
        x.step(0);
        x.step(9);
        x.run(3, 1);
        x.run(1, 201);
        x.plateau(1, 0, 1, 2, 2, 0);
        x.plateau(2, 0, 1, 1, 2, 0);
        x.replay(2);
        x.replay(-1);
        c.dueTrace(x, "BAD and STATE leave it", 5, 2, 1);
        x.drive(0, 0, 0, 0);
        c.dueTrace(x, "a drive", 1);
        x.drive(2, 0, 0, 0);
        c.dueTrace(x, "a finding empties it");
        x.step(1);
        c.dueTrace(x, "a step", 10, 1);
        x.run(1, 0);
        c.dueTrace(x, "a run of none");
        x.replay(0);
        c.due("a replay", x.trace(0), 1);
        x.plateau(2, 0, 1, 2, 2, 60);
        c.due("a plateau", x.trace(0), 11);
        c.due("a plateau then", x.trace(1), 10);
    }

    /** How many: 0 DEVICES, 1 LISTENERS, 2 TESTS, 3 CHARTS. BAD. */
    private static void countArguments() {
        busy.outside("count(what)", 0, 3, (x, v) -> x.count(v));
        HearingRoom x = Rooms.busy();
        int[] due = {5, 2, 4, 3};
        for (int what = 0; what < 4; what++) c.due("count(" + what + ")", x.count(what), due[what]);
        c.due("status() is left", x.status(), -108);
    }

    /** Why the latest call but status(), finding(), findings(), silent(), trace(), count() was refused; 0: it was not. */
    private static void whyTheLatestWasRefused() {
        int[] whys = {BAD, FULL, STATE, -101, -102, -103, -104, -105, -106, -107, -108, -109};
        for (int why : whys) {
            HearingRoom x = refusedBy(why);
            c.due("status()", x.status(), why);
            c.due("status() again", x.status(), why);
            x.finding();
            x.findings(1);
            x.findings(10);
            x.silent(0);
            x.silent(3);
            x.trace(0);
            x.trace(-1);
            x.count(0);
            x.count(4);
            c.due("status() behind what is told", x.status(), why);
            x.plateauOf(0);
            c.due("status() behind plateauOf()", x.status(), 0);
        }
        HearingRoom x = refusedBy(BAD);
        x.digest();
        c.due("status() behind digest()", x.status(), 0);
        x.plateauOf(5);
        c.due("status() behind plateauOf(5)", x.status(), BAD);
        x.threshold(2);
        c.due("NOTHING is no refusal", x.status(), 0);
        x.at(0, 0, 0, 23);
        c.due("nor is NAN", x.status(), 0);
        x.count(9);
        c.due("nor is BAD of count()", x.status(), 0);
    }

    private static HearingRoom refusedBy(int why) {
        HearingRoom x = why == FULL ? Rooms.full() : Rooms.busy();
        switch (why) {
            case BAD: x.kindOf(0, 6); break;
            case FULL: x.chart(); break;
            case STATE: x.noise(0, 0); break;
            case -101: x.drive(2, 0, 0, 0); break;
            case -102: x.offset(2, 0); break;
            case -103: x.drive(1, 0, 6, 0); break;
            case -104: x.drive(0, 0, 2, 0); break;
            case -105: x.drive(0, 0, 3, 0); break;
            case -106: x.drive(0, 0, 0, 111); break;
            case -107: x.row(4, 0); break;
            case -108: x.turn(2, 0); break;
            default: x.rate(2); break;
        }
        return x;
    }

    /** The first that fits: BAD .., FULL, STATE (as told); then of FINDINGS. */
    private static void theFirstThatFits() {
        Edges full = new Edges(c, Rooms::full);
        full.refused("device(4, 0, 24): BAD ahead of FULL", BAD, x -> x.device(4, 0, 24));
        full.refused("listener(2): BAD ahead of FULL", BAD, x -> x.listener(2));
        full.refused("script(0, 0, 32): BAD ahead of FULL", BAD, x -> x.script(0, 0, 32));
        full.refused("test(0, 0, 0, 24): BAD ahead of FULL", BAD, x -> x.test(0, 0, 0, 24));
        busy.refused("rule(0, 1, -1): BAD ahead of STATE", BAD, x -> x.rule(0, 1, -1));
        busy.refused("noise(0, 121): BAD ahead of STATE", BAD, x -> x.noise(0, 121));
        busy.refused("run(0, 201): BAD ahead of STATE", BAD, x -> x.run(0, 201));
        busy.refused("plateau(0, 0, 1, 2, 2, 61): BAD ahead of STATE", BAD, x -> x.plateau(0, 0, 1, 2, 2, 61));
        busy.refused("enter(3, 1): BAD ahead of STATE", BAD, x -> x.enter(3, 1));
        busy.refused("row(4, 25): BAD ahead of UNFIT", BAD, x -> x.row(4, 25));
        busy.refused("calibrate(4, 24, 0, 0): BAD ahead of UNFIT", BAD, x -> x.calibrate(4, 24, 0, 0));
        busy.refused("offset(2, 24): BAD ahead of LACKING", BAD, x -> x.offset(2, 24));
        busy.refused("drive(2, 0, 0, 121): BAD ahead of UNPLUGGED", BAD, x -> x.drive(2, 0, 0, 121));
        Edges unplugged = new Edges(c, () -> {
            HearingRoom x = Rooms.busy();
            x.plug(0, false);
            return x;
        });
        unplugged.refused("step(0): STATE ahead of UNPLUGGED", STATE, x -> x.step(0));
        unplugged.refused("run(3, 1): STATE ahead of UNPLUGGED", STATE, x -> x.run(3, 1));
        unplugged.refused("replay(2): STATE ahead of UNPLUGGED", STATE, x -> x.replay(2));
    }

    /** h = 17; h becomes 31 h and n, as longs that wrap. */
    private static void digestWraps() {
        HearingRoom x = new HearingRoom();
        x.chart();
        x.put(0, 0, 0, 0, Rooms.bits(-0.0));
        x.put(0, 0, 0, 1, Rooms.bits(0.0));
        x.put(0, 1, 1, 23, Rooms.bits(-1000.0));
        java.math.BigInteger h = java.math.BigInteger.valueOf(17);
        for (int i = 0; i < 96; i++) {
            long n = i == 0 ? Long.MIN_VALUE : i == 1 ? 0L : i == 95 ? Rooms.bits(-1000.0) : Check.NAN;
            h = h.multiply(java.math.BigInteger.valueOf(31)).add(java.math.BigInteger.valueOf(n));
        }
        c.due("digest()", x.digest(), h.longValue());
        c.due("digest() again", x.digest(), h.longValue());
        c.due("it did wrap", h.bitLength() > 64 ? 1 : 0, 1);
    }

    /** Of each TEST for each tone that was answered its LEVEL, then its answer, then by what the TEST ENDED; then each CHART's BITS. */
    private static void digestOfFullRooms() {
        HearingRoom x = Rooms.full();
        long h = 17;
        for (int t = 0; t < 60; t++) {
            int answered = x.told(t, 1);
            for (int k = 0; k < answered; k++) h = 31 * (31 * h + x.tone(t, k)) + x.answer(t, k);
            h = 31 * h + x.told(t, 3);
        }
        for (int i = 0; i < 1920; i++) h = 31 * h + (i == 1919 ? Rooms.bits(1000.0) : Check.NAN);
        c.due("digest() of a full room", x.digest(), h);
        HearingRoom y = Rooms.busy();
        long g = 17;
        for (int t = 0; t < 4; t++) {
            for (int k = 0; k < y.told(t, 1); k++) g = 31 * (31 * g + y.tone(t, k)) + y.answer(t, k);
            g = 31 * g + y.told(t, 3);
        }
        for (int i = 0; i < 288; i++) g = 31 * g + y.at(i / 96, i / 48 % 2, i / 24 % 2, i % 24);
        c.due("digest() of a busy room", y.digest(), g);
    }

    /** An object is used for at most 512 calls after it has been made. */
    private static void upTo512Calls() {
        HearingRoom x = new HearingRoom();
        int calls = 0;
        for (int i = 0; i < 24; i++, calls++) c.due("device " + i, x.device(0, 0, 0), i);
        for (int i = 0; i < 24; i++, calls++) c.due("plug " + i, x.plug(i, true), 1);
        for (int i = 0; i < 24; i++, calls++) c.due("row " + i, x.row(i, 24), 1);
        for (int i = 0; i < 40; i++, calls++) c.due("listener " + i, x.listener(1), i);
        for (int i = 0; i < 60; i++, calls++) c.due("test " + i, x.test(i % 24, i % 40, 0, 0), i);
        for (int i = 0; i < 60; i++, calls++) c.due("rule " + i, x.rule(i, 1, 0), 20);
        for (int i = 0; i < 60; i++, calls++) c.due("MOST of " + i, x.rule(i, 6, 200), 60);
        for (int i = 0; i < 60; i++, calls++) c.due("run " + i, x.run(i, 199), 199);
        for (int i = 0; i < 20; i++, calls++) c.due("chart " + i, x.chart(), i);
        for (int i = 0; i < 60; i++, calls++) c.due("replay " + i, x.replay(i), 1);
        for (int i = 0; i < 60; i++, calls++) c.due("step " + i, x.step(i), 0);
        for (; calls < 510; calls++) c.due("chart too many", x.chart(), FULL);
        c.due("call 511", x.silent(0), 60 * 199 * 2 + 60);
        long h = 17;
        for (int t = 0; t < 60; t++) {
            for (int k = 0; k < 200; k++) h = 31 * (31 * h + 40);
            h = 31 * h + 3;
        }
        for (int i = 0; i < 1920; i++) h = 31 * h + Check.NAN;
        c.due("call 512", x.digest(), h);
    }
}
