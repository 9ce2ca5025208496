/** Promises 41 to 47. */
public final class ToldTest {
    private static final int NOTHING = -1000, BAD = -1001, FULL = -1002, STATE = -1003;
    private static final Check c = new Check("ToldTest");

    public static void main(String[] args) {
        promise41Silent();
        promise42Findings();
        promise43Finding();
        promise44Trace();
        promise45Count();
        promise46Status();
        promise47Digest();
        c.end();
    }

    private static void promise41Silent() {
        HearingRoom x = new HearingRoom();
        int t = Rooms.recited(x, "0101");
        x.drive(0, 0, 0, 0);
        c.due("a drive begins nothing", x.silent(0), 0);
        x.step(t);
        x.run(t, 2);
        x.replay(t);
        x.run(t, 9);
        x.plateau(x.test(0, 0, 0, 0), 0, 10, 2, 2, 0);
        // 1, 2, 3, then 1 and a finding, then a finding
        c.due("begun", x.silent(0), 9);
        c.due("silenced", x.silent(1), 9);
        c.due("sounding", x.silent(2), 0);
        c.due("silent(3)", x.silent(3), BAD);
        c.due("silent(-1)", x.silent(-1), BAD);
        c.due("status() is of the plateau", x.status(), 0);
    }

    private static void promise42Findings() {
        HearingRoom x = new HearingRoom();
        int t = Rooms.recited(x, "");
        x.device(4, 0, 0);
        x.row(1, 3);
        x.row(1, 30);
        x.calibrate(1, 0, 1, 1);
        x.offset(1, 0);
        x.step(t);
        x.run(t, 1);
        x.plateau(t, 0, 10, 2, 2, 0);
        x.tone(t, 0);
        x.answer(t, 0);
        x.turn(t, 0);
        x.rate(t);
        x.unsure(t);
        x.drive(1, 0, 0, 0);
        long[] due = {0, 1, 0, 0, 0, 0, 0, 3, 6, 2};
        for (int f = 1; f <= 9; f++) c.due("findings(" + f + ")", x.findings(f), due[f]);
        c.due("findings(0)", x.findings(0), BAD);
        c.due("findings(10)", x.findings(10), BAD);
        c.due("findings(-1)", x.findings(-1), BAD);
        c.due("status() is of the drive", x.status(), -101);
    }

    /** Each of the calls that tell a finding, fine or BAD, sets it back to 0; the others leave it. */
    private static void promise43Finding() {
        for (int call = 0; call < 26; call++) {
            HearingRoom x = new HearingRoom();
            int t = Rooms.recited(x, "10101010101");
            x.rule(t, 9, 3);
            int yet = x.test(0, 0, 0, 0);
            x.run(t, 4);
            x.tone(t, 99);
            c.due("finding()", x.finding(), 8);
            if (call < 13) {
                fine(x, call, t, yet);
            } else {
                wrong(x, call - 13);
            }
            c.due("finding() behind call " + call, x.finding(), 0);
        }
        HearingRoom x = new HearingRoom();
        int t = Rooms.recited(x, "1010101");
        x.chart();
        x.tone(t, 99);
        x.told(t, 0);
        x.threshold(t);
        x.noise(t, 10);
        x.rule(t, 0, 30);
        x.plug(0, true);
        x.enter(0, t);
        x.at(0, 0, 0, 0);
        x.script(9, 0, 0);
        x.plateauOf(0);
        x.digest();
        x.device(0, 0, 0);
        c.due("others leave it", x.finding(), 8);
        x.run(t, 200);
        x.tone(t, 99);
        x.step(t);
        c.due("STATE sets it back", x.finding(), 0);
    }

    private static void fine(HearingRoom x, int call, int t, int yet) {
        switch (call) {
            case 0: x.row(0, 24); break;
            case 1: x.calibrate(0, 0, 1, 1); break;
            case 2: x.offset(0, 0); break;
            case 3: x.drive(0, 0, 0, 0); break;
            case 4: x.step(t); break;
            case 5: x.run(t, 1); break;
            case 6: x.tone(t, 0); break;
            case 7: x.answer(t, 0); break;
            case 8: x.turn(t, 0); break;
            case 9: x.rate(t); break;
            case 10: x.unsure(t); break;
            case 11: x.rule(yet, 5, 1); x.rule(yet, 4, 1); x.plateau(yet, 0, 1, 2, 2, 60); break;
            default: x.replay(t); break;
        }
        c.due("status() of fine call " + call, x.status(), 0);
    }

    private static void wrong(HearingRoom x, int call) {
        switch (call) {
            case 0: x.row(9, 24); break;
            case 1: x.calibrate(9, 0, 1, 1); break;
            case 2: x.offset(9, 0); break;
            case 3: x.drive(9, 0, 0, 0); break;
            case 4: x.step(9); break;
            case 5: x.run(9, 1); break;
            case 6: x.tone(9, 0); break;
            case 7: x.answer(9, 0); break;
            case 8: x.turn(9, 0); break;
            case 9: x.rate(9); break;
            case 10: x.unsure(9); break;
            case 11: x.plateau(9, 0, 1, 2, 2, 0); break;
            default: x.replay(9); break;
        }
        c.due("status() of wrong call " + call, x.status(), BAD);
    }

    private static void promise44Trace() {
        HearingRoom x = new HearingRoom();
        int d = Rooms.ready(x, 2);
        x.listener(1);
        int t = x.test(d, 0, 0, 0);
        x.rule(t, 1, 0);
        x.rule(t, 6, 30);
        c.due("thirty tones", x.run(t, 200), 30);
        for (int k = 0; k < 60; k++) c.due("trace(" + k + ")", x.trace(k), 3 - k % 3);
        c.due("the first 60 are kept", x.trace(60), NOTHING);
        c.due("trace(-1)", x.trace(-1), NOTHING);
        c.due("trace of the greatest", x.trace(Integer.MAX_VALUE), NOTHING);
        x.step(t);
        c.due("STATE leaves it", x.trace(59), 1);
        x.told(t, 0);
        x.tone(t, 99);
        c.due("others leave it", x.trace(59), 1);
        x.drive(d, 0, 0, 0);
        c.dueTrace(x, "a drive begins anew", 3, 2, 1);
    }

    private static void promise45Count() {
        HearingRoom x = new HearingRoom();
        for (int i = 0; i < 3; i++) x.device(0, 0, 0);
        for (int i = 0; i < 4; i++) x.listener(0);
        for (int i = 0; i < 5; i++) x.test(0, 0, 0, 0);
        for (int i = 0; i < 6; i++) x.chart();
        x.device(9, 0, 0);
        x.listener(9);
        x.test(9, 0, 0, 0);
        for (int what = 0; what < 4; what++) c.due("count(" + what + ")", x.count(what), 3 + what);
        c.due("count(4)", x.count(4), BAD);
        c.due("count(-1)", x.count(-1), BAD);
    }

    private static void promise46Status() {
        HearingRoom x = new HearingRoom();
        x.device(9, 0, 0);
        c.due("BAD", x.status(), BAD);
        c.due("status() leaves it", x.status(), BAD);
        x.finding();
        x.findings(1);
        x.silent(0);
        x.trace(0);
        x.count(0);
        c.due("what is told leaves it", x.status(), BAD);
        x.digest();
        c.due("digest() does not", x.status(), 0);
        x.findings(99);
        x.silent(99);
        x.trace(99);
        x.count(99);
        c.due("nor does BAD of them come there", x.status(), 0);
        for (int i = 0; i < 21; i++) x.chart();
        c.due("FULL", x.status(), FULL);
        x.plateauOf(0);
        c.due("plateauOf() sets it back", x.status(), 0);
        int t = Rooms.recited(x, "");
        x.replay(t);
        c.due("STATE", x.status(), STATE);
        x.step(t);
        c.due("UNREADY", x.status(), -108);
        x.rate(t);
        c.due("SHARED", x.status(), -109);
        x.drive(0, 0, 0, 120);
        c.due("LOUD", x.status(), -106);
        x.threshold(t);
        c.due("NOTHING is no refusal", x.status(), 0);
    }

    private static void promise47Digest() {
        HearingRoom x = new HearingRoom();
        c.due("of nothing", x.digest(), 17);
        int t = Rooms.recited(x, "110");
        x.rule(t, 9, 2);
        c.due("of a test that did not begin", x.digest(), 17 * 31);
        x.run(t, 3);
        int s = x.test(0, 0, 0, 0);
        x.rule(s, 6, 1);
        Rooms.tell(x, 0, "1");
        x.step(s);
        x.chart();
        x.chart();
        x.put(1, 1, 0, 3, 5L);
        long h = 17;
        long[] kept = {40, 1, NOTHING, 1, 20, 0, 0, 40, 1, 3};
        for (long n : kept) h = 31 * h + n;
        for (int i = 0; i < 192; i++) h = 31 * h + (i == 96 + 48 + 3 ? 5L : Check.NAN);
        c.due("of tests and charts", x.digest(), h);
        c.due("status()", x.status(), 0);
    }
}
