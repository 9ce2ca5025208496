/** Promises 26 to 28. */
public final class PlateauTest {
    private static final int NOTHING = -1000, STATE = -1003;
    private static final Check c = new Check("PlateauTest");

    public static void main(String[] args) {
        promise26Wrong();
        promise26Known();
        promise26NotKnown();
        promise26Finding();
        promise26NoiseTooHigh();
        promise27PlateauOf();
        promise28Replay();
        promise28Findings();
        c.end();
    }

    private static void duePlateau(HearingRoom x, String when, int known, int noise, int stairs, int tones, int found) {
        int[] due = {known, noise, stairs, tones, found};
        for (int what = 0; what < 5; what++) c.due("plateauOf(" + what + ") " + when, x.plateauOf(what), due[what]);
    }

    /** A test whose staircases have one turn each, at a level that two answers tell. */
    private static int quick(HearingRoom x, String answers) {
        int t = Rooms.recited(x, answers);
        x.rule(t, 5, 1);
        x.rule(t, 4, 1);
        return t;
    }

    private static void promise26Wrong() {
        HearingRoom x = new HearingRoom();
        int t = quick(x, "1");
        c.dueBad(x, "test 1", x.plateau(t + 1, 0, 10, 3, 2, 5));
        c.dueBad(x, "test -1", x.plateau(-1, 0, 10, 3, 2, 5));
        c.dueBad(x, "from -21", x.plateau(t, -21, 10, 3, 2, 5));
        c.dueBad(x, "from 121", x.plateau(t, 121, 10, 3, 2, 5));
        c.dueBad(x, "from NOTHING", x.plateau(t, NOTHING, 10, 3, 2, 5));
        c.dueBad(x, "by 0", x.plateau(t, 0, 0, 3, 2, 5));
        c.dueBad(x, "by 41", x.plateau(t, 0, 41, 3, 2, 5));
        c.dueBad(x, "many 0", x.plateau(t, 0, 10, 0, 2, 5));
        c.dueBad(x, "many 13", x.plateau(t, 0, 10, 13, 2, 5));
        c.dueBad(x, "many 1", x.plateau(t, 0, 10, 1, 1, 5));
        c.dueBad(x, "wide 1", x.plateau(t, 0, 10, 3, 1, 5));
        c.dueBad(x, "wide above many", x.plateau(t, 0, 10, 3, 4, 5));
        c.dueBad(x, "span -1", x.plateau(t, 0, 10, 3, 2, -1));
        c.dueBad(x, "span 61", x.plateau(t, 0, 10, 3, 2, 61));
        duePlateau(x, "behind BAD", 0, NOTHING, 0, 0, 0);
        c.due("begun", x.silent(0), 0);
        x.step(t);
        c.dueRefused(x, "STATE", x.plateau(t, 0, 10, 3, 2, 5), STATE);
        c.dueBad(x, "BAD ahead of STATE", x.plateau(t, 0, 0, 3, 2, 5));
        duePlateau(x, "behind STATE", 0, NOTHING, 0, 0, 0);
        c.due("finding()", x.finding(), 0);
    }

    private static void promise26Known() {
        HearingRoom x = new HearingRoom();
        // turns at 20, 60, 60, with FIRST 20 from 40
        int t = quick(x, "10" + "01" + "01" + "10");
        x.noise(t, 77);
        x.drive(0, 0, 0, 0);
        c.due("known by the second and third", x.plateau(t, 10, 15, 12, 2, 0), 60);
        c.due("status()", x.status(), 0);
        c.due("finding()", x.finding(), 0);
        duePlateau(x, "known", 1, 40, 3, 6, 0);
        c.due("begun", x.silent(0), 6);
        c.due("silenced", x.silent(1), 6);
        c.dueTrace(x, "known", 10, 1, 10, 1, 10, 1, 10, 1, 10, 1, 10, 1);
        c.due("the listener went on", x.listenerOf(0, 2), 6);
        c.due("the test did not begin", x.told(t, 1), 0);
        c.due("its noise stayed", x.told(t, 7), 77);
        c.due("its level stayed", x.told(t, 0), 40);
        HearingRoom y = new HearingRoom();
        int s = quick(y, "01" + "10" + "10" + "10");
        c.due("span 40 takes the first two", y.plateau(s, 10, 15, 12, 2, 40), 20);
        duePlateau(y, "span 40", 1, 25, 2, 4, 0);
        HearingRoom z = new HearingRoom();
        int u = quick(z, "01" + "10" + "10" + "01" + "10");
        c.due("span 39 does not", z.plateau(u, 10, 15, 12, 2, 39), 20);
        duePlateau(z, "span 39", 1, 40, 3, 6, 0);
        HearingRoom w = new HearingRoom();
        int v = quick(w, "01" + "10" + "01" + "10");
        c.due("three wide, greatest less least", w.plateau(v, 10, 15, 12, 3, 40), 60);
        duePlateau(w, "three wide", 1, 40, 3, 6, 0);
    }

    private static void promise26NotKnown() {
        HearingRoom x = new HearingRoom();
        int t = quick(x, "10" + "01" + "10" + "01");
        c.due("never level", x.plateau(t, 10, 15, 4, 2, 39), NOTHING);
        c.due("status()", x.status(), 0);
        c.due("finding()", x.finding(), 0);
        duePlateau(x, "never level", 0, 55, 4, 8, 0);
        HearingRoom y = new HearingRoom();
        // the second staircase goes down to LOW and has no threshold: 40, 20, 0, -10, -10
        int s = quick(y, "10" + "11111" + "10" + "10");
        c.due("one without a threshold parts them", y.plateau(s, 10, 15, 4, 2, 0), 20);
        duePlateau(y, "parted", 1, 55, 4, 11, 0);
        HearingRoom z = new HearingRoom();
        int u = quick(z, "11111" + "11111");
        c.due("two without are not alike", z.plateau(u, 10, 15, 2, 2, 60), NOTHING);
        duePlateau(z, "two without", 0, 25, 2, 10, 0);
        HearingRoom w = new HearingRoom();
        int v = quick(w, "11" + "11");
        w.rule(v, 7, 40);
        c.due("hits do not go on", w.plateau(v, 10, 15, 2, 2, 60), NOTHING);
        duePlateau(w, "hits do not go on", 0, 25, 2, 4, 0);
    }

    private static void promise26Finding() {
        HearingRoom x = new HearingRoom();
        int t = quick(x, "10" + "1");
        c.due("UNREADY", x.plateau(t, 10, 15, 4, 2, 60), NOTHING);
        c.due("status()", x.status(), 0);
        c.due("finding()", x.finding(), 8);
        c.due("findings(8)", x.findings(8), 1);
        duePlateau(x, "UNREADY", 0, 25, 2, 3, 8);
        c.due("begun", x.silent(0), 4);
        c.due("sounding", x.silent(2), 0);
        HearingRoom y = new HearingRoom();
        int d = Rooms.ready(y, 3);
        int s = y.test(d, Rooms.reciter(y, "1"), 0, 0);
        c.due("UNFIT", y.plateau(s, 10, 15, 4, 2, 60), NOTHING);
        duePlateau(y, "UNFIT", 0, 10, 1, 0, 7);
        c.dueTrace(y, "UNFIT");
        c.due("the listener was not asked", y.listenerOf(0, 2), 0);
    }

    private static void promise26NoiseTooHigh() {
        HearingRoom x = new HearingRoom();
        int t = quick(x, "10" + "01" + "10" + "01");
        c.due("100 and 120, not 140", x.plateau(t, 100, 20, 12, 2, 0), NOTHING);
        duePlateau(x, "100 and 120", 0, 120, 2, 4, 0);
        c.due("120 alone", x.plateau(t, 120, 1, 12, 2, 60), NOTHING);
        duePlateau(x, "120 alone", 0, 120, 1, 2, 0);
    }

    private static void promise27PlateauOf() {
        HearingRoom x = new HearingRoom();
        duePlateau(x, "at first", 0, NOTHING, 0, 0, 0);
        c.due("status()", x.status(), 0);
        c.dueBad(x, "plateauOf(5)", x.plateauOf(5));
        c.dueBad(x, "plateauOf(-1)", x.plateauOf(-1));
        int t = quick(x, "1010" + "1");
        x.plateau(t, -20, 40, 2, 2, 0);
        duePlateau(x, "known", 1, 20, 2, 4, 0);
        x.plateau(t, -20, 40, 2, 2, 0);
        duePlateau(x, "a finding", 0, -20, 1, 1, 8);
        x.plateau(t, -20, 0, 2, 2, 0);
        duePlateau(x, "BAD leaves it", 0, -20, 1, 1, 8);
        Rooms.tell(x, 0, "1010");
        x.plateau(t, 0, 40, 2, 2, 0);
        duePlateau(x, "known again", 1, 40, 2, 4, 0);
    }

    private static void promise28Replay() {
        HearingRoom x = new HearingRoom();
        int t = Rooms.recited(x, "1011010");
        x.rule(t, 9, 3);
        c.dueRefused(x, "STATE", x.replay(t), STATE);
        c.dueBad(x, "replay(1)", x.replay(t + 1));
        c.dueBad(x, "replay(-1)", x.replay(-1));
        x.run(t, 4);
        long digest = x.digest();
        c.due("replay", x.replay(t), 1);
        c.due("status()", x.status(), 0);
        c.dueTrace(x, "replay", 1, 1, 1);
        c.due("begun", x.silent(0), 8);
        c.due("silenced", x.silent(1), 8);
        c.due("digest()", x.digest(), digest);
        c.due("level", x.told(t, 0), 15);
        x.run(t, 200);
        c.due("replay", x.replay(t), 1);
        x.noise(t, 20);
        c.due("with noise as it is now", x.replay(t), 1);
        c.dueTrace(x, "noise", 10, 1, 10, 1, 10, 1, 10, 1, 10, 1);
        HearingRoom y = new HearingRoom();
        int s = Rooms.recited(y, "101010");
        y.rule(s, 5, 1);
        y.rule(s, 4, 2);
        y.run(s, 200);
        c.due("an ENDED one", y.told(s, 3), 1);
        c.due("replay", y.replay(s), 1);
    }

    private static void promise28Findings() {
        HearingRoom x = new HearingRoom();
        int t = Rooms.recited(x, "1010101");
        x.run(t, 5);
        x.plug(0, false);
        c.dueFinding(x, "UNPLUGGED", x.replay(t), 1);
        c.due("begun", x.silent(0), 6);
        c.due("silenced", x.silent(1), 6);
        x.plug(0, true);
        x.calibrate(0, 2, 80, 1);
        c.dueFinding(x, "LOUD", x.replay(t), 6);
        c.dueTrace(x, "LOUD", 1);
        x.calibrate(0, 2, 70, 1);
        c.due("110.0", x.replay(t), 1);
        x.row(0, 2);
        c.dueFinding(x, "SHORT", x.replay(t), 3);
        x.row(0, -1);
        c.dueFinding(x, "LACKING", x.replay(t), 2);
        c.due("nothing else", x.told(t, 1), 5);
    }
}
