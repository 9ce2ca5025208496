/** Promises 9 to 13, and how listeners answer. */
public final class ListenersTest {
    private static final int NOTHING = -1000, FULL = -1002;
    private static final Check c = new Check("ListenersTest");

    public static void main(String[] args) {
        promise9Listener();
        promise10Script();
        promise11Limen();
        promise12Seed();
        promise13ListenerOf();
        hearsByLimens();
        hearsSilentByLuck();
        c.end();
    }

    private static void promise9Listener() {
        HearingRoom x = new HearingRoom();
        c.dueBad(x, "listener(-1)", x.listener(-1));
        c.dueBad(x, "listener(2)", x.listener(2));
        for (int i = 0; i < 40; i++) c.due("listener " + i, x.listener(i & 1), i);
        c.dueRefused(x, "listener 40", x.listener(0), FULL);
        c.dueBad(x, "BAD ahead of FULL", x.listener(2));
        c.due("count(1)", x.count(1), 40);
        c.due("listenerOf(38, 0)", x.listenerOf(38, 0), 0);
        c.due("listenerOf(39, 0)", x.listenerOf(39, 0), 1);
    }

    private static void promise10Script() {
        HearingRoom x = new HearingRoom();
        x.listener(0);
        x.listener(1);
        c.dueBad(x, "script(0, 0, 0)", x.script(0, 0, 0));
        c.dueBad(x, "script(0, 0, 32)", x.script(0, 0, 32));
        c.dueBad(x, "script(0, 0, -1)", x.script(0, 0, -1));
        c.dueBad(x, "by LIMENS", x.script(1, 0, 1));
        c.dueBad(x, "script(2)", x.script(2, 0, 1));
        c.due("31", x.script(0, 0b101, 31), 31);
        for (int i = 2; i <= 6; i++) c.due("31 more", x.script(0, -1, 31), 31 * i);
        c.dueRefused(x, "15 do not go in", x.script(0, 0, 15), FULL);
        c.due("none of them went in", x.listenerOf(0, 1), 186);
        c.due("14 do", x.script(0, 0, 14), 200);
        c.dueRefused(x, "1 more", x.script(0, 0, 1), FULL);
        c.dueBad(x, "BAD ahead of FULL", x.script(0, 0, 32));
        int d = Rooms.ready(x, 0);
        int t = x.test(d, 0, 0, 0);
        x.rule(t, 4, 20);
        c.due("first bit", x.step(t), 1);
        c.due("second bit", x.step(t), 0);
        c.due("third bit", x.step(t), 1);
        c.due("fourth bit", x.step(t), 0);
        c.dueRefused(x, "taken ones count on", x.script(0, 0, 1), FULL);
        c.due("ever told", x.listenerOf(0, 1), 200);
        HearingRoom y = new HearingRoom();
        int late = Rooms.recited(y, "1");
        y.step(late);
        c.dueFinding(y, "UNREADY", y.step(late), 8);
        c.due("told later", y.script(0, 0, 1), 2);
        c.due("goes on", y.step(late), 0);
    }

    private static void promise11Limen() {
        HearingRoom x = new HearingRoom();
        x.listener(0);
        x.listener(1);
        c.dueBad(x, "by SCRIPT", x.limen(0, 0, 0, 10));
        c.dueBad(x, "limen(2)", x.limen(2, 0, 0, 10));
        c.dueBad(x, "ear 2", x.limen(1, 2, 0, 10));
        c.dueBad(x, "ear -1", x.limen(1, -1, 0, 10));
        c.dueBad(x, "tone 24", x.limen(1, 0, 24, 10));
        c.dueBad(x, "tone -1", x.limen(1, 0, -1, 10));
        c.dueBad(x, "121", x.limen(1, 0, 0, 121));
        c.dueBad(x, "-21", x.limen(1, 0, 0, -21));
        c.dueBad(x, "-999", x.limen(1, 0, 0, -999));
        for (int ear = 0; ear < 2; ear++) {
            for (int tone = 0; tone < 24; tone++) {
                c.due("limen at first", x.limen(1, ear, tone, 24 * ear + tone - 20), NOTHING);
            }
        }
        for (int ear = 0; ear < 2; ear++) {
            for (int tone = 0; tone < 24; tone++) {
                c.due("limen then", x.limen(1, ear, tone, NOTHING), 24 * ear + tone - 20);
            }
        }
        c.due("120", x.limen(1, 0, 0, 120), NOTHING);
        c.due("-20", x.limen(1, 0, 0, -20), 120);
        c.due("status()", x.status(), 0);
    }

    private static void promise12Seed() {
        HearingRoom x = new HearingRoom();
        x.listener(0);
        x.listener(1);
        c.dueBad(x, "by SCRIPT", x.seed(0, 1, 1));
        c.dueBad(x, "spread -1", x.seed(1, 1, -1));
        c.dueBad(x, "spread 21", x.seed(1, 1, 21));
        c.dueBad(x, "seed(2)", x.seed(2, 1, 1));
        c.due("seed", x.seed(1, Integer.MIN_VALUE, 20), 1);
        c.due("seed", x.seed(1, -5, 0), 1);
    }

    private static void promise13ListenerOf() {
        HearingRoom x = new HearingRoom();
        int t = Rooms.recited(x, "0101");
        x.listener(1);
        c.due("sort", x.listenerOf(0, 0), 0);
        c.due("told", x.listenerOf(0, 1), 4);
        c.due("gave", x.listenerOf(0, 2), 0);
        x.run(t, 3);
        c.due("told", x.listenerOf(0, 1), 4);
        c.due("gave", x.listenerOf(0, 2), 3);
        x.replay(t);
        c.due("a replay asks nobody", x.listenerOf(0, 2), 3);
        x.run(t, 5);
        c.due("UNREADY is no answer", x.listenerOf(0, 2), 4);
        c.due("sort", x.listenerOf(1, 0), 1);
        c.due("told by LIMENS", x.listenerOf(1, 1), 0);
        x.step(x.test(0, 1, 0, 0));
        c.due("gave by LIMENS", x.listenerOf(1, 2), 1);
        c.dueBad(x, "listenerOf(0, 3)", x.listenerOf(0, 3));
        c.dueBad(x, "listenerOf(0, -1)", x.listenerOf(0, -1));
        c.dueBad(x, "listenerOf(2, 0)", x.listenerOf(2, 0));
        c.dueBad(x, "listenerOf(-1, 0)", x.listenerOf(-1, 0));
    }

    /** One tone at a level, with limens and noise; what is answered without luck. */
    private static int heard(int own, int other, int noise, int level, int ear) {
        HearingRoom x = new HearingRoom();
        int d = Rooms.ready(x, 0);
        x.listener(1);
        x.limen(0, ear, 5, own);
        x.limen(0, 1 - ear, 5, other);
        int t = x.test(d, 0, ear, 5);
        x.rule(t, 7, -20);
        x.rule(t, 0, level);
        x.noise(t, noise);
        return x.step(t);
    }

    private static void hearsByLimens() {
        for (int ear = 0; ear < 2; ear++) {
            c.due("at the limen", heard(30, NOTHING, NOTHING, 30, ear), 1);
            c.due("below the limen", heard(30, NOTHING, NOTHING, 29, ear), 0);
            c.due("a limen that is nothing", heard(NOTHING, NOTHING, NOTHING, 100, ear), 0);
            c.due("noise less 50", heard(10, NOTHING, 80, 30, ear), 1);
            c.due("below noise less 50", heard(10, NOTHING, 80, 29, ear), 0);
            c.due("by the other ear", heard(NOTHING, 20, NOTHING, 60, ear), 1);
            c.due("not by the other ear", heard(NOTHING, 20, NOTHING, 59, ear), 0);
            c.due("by the other ear in noise", heard(NOTHING, 20, 30, 70, ear), 1);
            c.due("the other ear is masked", heard(NOTHING, 20, 30, 69, ear), 0);
            c.due("noise below the other limen", heard(NOTHING, 20, 10, 60, ear), 1);
            c.due("limen -20 at -20", heard(-20, NOTHING, NOTHING, -20, ear), 1);
        }
    }

    private static void hearsSilentByLuck() {
        HearingRoom x = new HearingRoom();
        int d = Rooms.ready(x, 0);
        x.listener(1);
        x.limen(0, 0, 0, 35);
        x.seed(0, 77, 20);
        int t = x.test(d, 0, 0, 0);
        x.rule(t, 9, 2);
        x.rule(t, 4, 20);
        x.rule(t, 6, 200);
        int seed = 77;
        int falseOnes = 0;
        int k = 0;
        for (; k < 200 && x.told(t, 3) == 0; k++) {
            int level = x.told(t, 0);
            seed = seed * 1103515245 + 12345;
            int luck = (seed >>> 16) % 41 - 20;
            boolean due = k % 2 == 1 ? luck > 15 : level + luck >= 35;
            if (k % 2 == 1 && due) falseOnes++;
            c.due("answer " + k, x.step(t), due ? 1 : 0);
        }
        c.due("false ones", x.told(t, 5), falseOnes);
        c.due("some were false", falseOnes > 0 ? 1 : 0, 1);
        c.due("silent ones", x.told(t, 6), k / 2);
    }
}
