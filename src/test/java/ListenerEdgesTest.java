/** Boundary cases that the document names of listeners (3 LISTENERS, promises 9 to 13); each comment is the sentence. */
public final class ListenerEdgesTest {
    private static final int NOTHING = -1000, BAD = -1001, FULL = -1002;
    private static final Check c = new Check("ListenerEdgesTest");
    private static final Edges busy = new Edges(c, Rooms::busy);
    private static final Edges full = new Edges(c, Rooms::full);
    private static final Edges almost = new Edges(c, Rooms::almostFull);

    public static void main(String[] args) {
        atMost40();
        scriptArguments();
        atMost200Answers();
        theFirstOneFirst();
        unreadyWhenAllAreTaken();
        limenArguments();
        nothingAtFirst();
        seedArguments();
        luckOfOneAnswer();
        luckGoesOn();
        luckOfEndsOfTheSpread();
        notBelowItsLimen();
        notBelowNoiseLess50();
        heardByTheOtherEar();
        limenThatIsNothing();
        luckIsPartOfH();
        silentTones();
        whatIsToldOfThem();
        c.end();
    }

    /** LISTENERS, 40 at most. .. by SCRIPT (0), by LIMENS (1): its number. BAD; FULL. */
    private static void atMost40() {
        busy.range("listener(sort)", 0, 1, (x, v) -> x.listener(v));
        busy.letBy("listener(0)", 2, x -> x.listener(0));
        almost.letBy("listener(1)", 39, x -> x.listener(1));
        full.refused("listener(0)", FULL, x -> x.listener(0));
        full.refused("listener(1)", FULL, x -> x.listener(1));
        full.refused("listener(2)", BAD, x -> x.listener(2));
        full.refused("listener(-1)", BAD, x -> x.listener(-1));
    }

    /** n (1 .. 31) ANSWERS behind a SCRIPT ..: how many it has. BAD: also one by LIMENS. */
    private static void scriptArguments() {
        busy.range("script(0, 5, n)", 1, 31, (x, v) -> x.script(0, 5, v));
        busy.letBy("script(0, 5, 1)", 32, x -> x.script(0, 5, 1));
        busy.letBy("script(0, 5, 31)", 62, x -> x.script(0, 5, 31));
        busy.outside("script(listener, 5, 1)", 0, 1, (x, v) -> x.script(v, 5, 1));
        busy.refused("script(1, 5, 1) by LIMENS", BAD, x -> x.script(1, 5, 1));
    }

    /** 200 at most that are ever told. .. FULL. */
    private static void atMost200Answers() {
        almost.letBy("script(0, 1, 1)", 200, x -> x.script(0, 1, 1));
        almost.refused("script(0, 1, 2)", FULL, x -> x.script(0, 1, 2));
        almost.refused("script(0, 1, 31)", FULL, x -> x.script(0, 1, 31));
        full.refused("script(0, 1, 1)", FULL, x -> x.script(0, 1, 1));
        full.refused("script(0, 1, 32)", BAD, x -> x.script(0, 1, 32));
        full.refused("script(0, 1, 0)", BAD, x -> x.script(0, 1, 0));
        full.letBy("script(2, 1, 31) of another one", 31, x -> x.script(2, 1, 31));
        HearingRoom x = new HearingRoom();
        int l = x.listener(0);
        for (int i = 0; i < 10; i++) x.script(l, 0, 20);
        int t = x.test(Rooms.ready(x, 0), l, 0, 0);
        x.rule(t, 6, 200);
        x.rule(t, 9, 2);
        x.rule(t, 1, 0);
        c.due("all 200 are taken", x.run(t, 200), 200);
        c.dueRefused(x, "ever told: taken ones stay counted", x.script(l, 0, 1), FULL);
        c.due("listenerOf(l, 2)", x.listenerOf(l, 2), 200);
    }

    /** One is taken each time, the first one first. .. the bits of answers from the lowest one on (1 yes). */
    private static void theFirstOneFirst() {
        int[] words = {0, -1, 1, 1 << 30, Integer.MIN_VALUE, Integer.MAX_VALUE, 0x55555555, 0x2aaaaaaa};
        for (int word : words) {
            HearingRoom x = new HearingRoom();
            int t = Rooms.recited(x, "");
            x.script(0, word, 31);
            x.script(0, 1, 1);
            x.rule(t, 1, 0);
            x.rule(t, 2, 0);
            x.rule(t, 3, 0);
            x.rule(t, 4, 20);
            for (int i = 0; i < 31 && x.told(t, 3) == 0; i++) c.due("bit " + i + " of " + word, x.step(t), word >>> i & 1);
            int rest = x.test(0, 0, 0, 0);
            x.rule(rest, 1, 0);
            x.rule(rest, 2, 0);
            x.rule(rest, 3, 0);
            x.rule(rest, 4, 20);
            int given = x.listenerOf(0, 2);
            for (int i = given; i < 31; i++) c.due("bit " + i + " of " + word + " in the next", x.step(rest), word >>> i & 1);
            c.due("what was told next comes next", x.step(rest), 1);
        }
    }

    /** UNREADY when all are taken. */
    private static void unreadyWhenAllAreTaken() {
        HearingRoom none = new HearingRoom();
        int never = Rooms.recited(none, "");
        c.dueFinding(none, "none was ever told", none.step(never), 8);
        HearingRoom x = new HearingRoom();
        int t = Rooms.recited(x, "1");
        c.due("the last one", x.step(t), 1);
        c.dueFinding(x, "behind the last one", x.step(t), 8);
        c.dueFinding(x, "and again", x.step(t), 8);
        c.due("begun", x.silent(0), 3);
        c.due("told(t, 0)", x.told(t, 0), 20);
        c.due("told(t, 1)", x.told(t, 1), 1);
        c.due("a finding takes no answer", x.script(0, 2, 2), 3);
        c.due("the next one", x.step(t), 0);
        c.due("and the next", x.step(t), 1);
    }

    /** BAD: also one by SCRIPT, a level that is none and not NOTHING. */
    private static void limenArguments() {
        busy.range("limen(1, ear, 5, 40)", 0, 1, (x, v) -> x.limen(1, v, 5, 40));
        busy.range("limen(1, 0, tone, 40)", 0, 23, (x, v) -> x.limen(1, 0, v, 40));
        busy.range("limen(1, 0, 5, level)", -20, 120, (x, v) -> x.limen(1, 0, 5, v));
        busy.outside("limen(listener, 0, 5, 40)", 0, 1, (x, v) -> x.limen(v, 0, 5, 40));
        busy.refused("limen(0, 0, 5, 40) by SCRIPT", BAD, x -> x.limen(0, 0, 5, 40));
        busy.refused("limen(0, 0, 5, NOTHING) by SCRIPT", BAD, x -> x.limen(0, 0, 5, NOTHING));
        busy.letBy("limen(1, 0, 5, NOTHING)", 35, x -> x.limen(1, 0, 5, NOTHING));
        busy.refused("limen(1, 0, 5, -1001)", BAD, x -> x.limen(1, 0, 5, -1001));
        busy.refused("limen(1, 0, 5, -999)", BAD, x -> x.limen(1, 0, 5, -999));
    }

    /** For each EAR and TONE a LIMEN (a LEVEL, or NOTHING, at first): what it was. */
    private static void nothingAtFirst() {
        HearingRoom x = new HearingRoom();
        x.listener(1);
        x.listener(1);
        for (int i = 0; i < 48; i++) c.due("at first " + i, x.limen(0, i / 24, i % 24, i - 20), NOTHING);
        for (int i = 0; i < 48; i++) c.due("then " + i, x.limen(0, i / 24, i % 24, NOTHING), i - 20);
        for (int i = 0; i < 48; i++) c.due("NOTHING again " + i, x.limen(0, i / 24, i % 24, 0), NOTHING);
        for (int i = 0; i < 48; i++) c.due("the other one's " + i, x.limen(1, i / 24, i % 24, 0), NOTHING);
    }

    /** A SPREAD s (0 .. 20; 0). .. BAD: also one by SCRIPT. */
    private static void seedArguments() {
        busy.range("seed(1, 5, spread)", 0, 20, (x, v) -> x.seed(1, 5, v));
        busy.outside("seed(listener, 5, 5)", 0, 1, (x, v) -> x.seed(v, 5, 5));
        busy.refused("seed(0, 5, 5) by SCRIPT", BAD, x -> x.seed(0, 5, 5));
        int[] seeds = {Integer.MIN_VALUE, -1, 0, 1, Integer.MAX_VALUE};
        for (int s : seeds) busy.letBy("seed(1, " + s + ", 20)", 1, x -> x.seed(1, s, 20));
    }

    /** What luck the document asks for: the draw of that number, from 1 on, with longs instead of wrapping ints. */
    private static int luck(int seed, int spread, int draw) {
        long x = seed & 0xffffffffL;
        for (int i = 0; i < draw; i++) x = (x * 1103515245L + 12345L) & 0xffffffffL;
        return (int) ((x >> 16) % (2 * spread + 1)) - spread;
    }

    /** Answers to draw number n at a level, with a limen at 40; the ones ahead are to tones that stay at the level. */
    private static int answerAt(int level, int seed, int spread, int draw) {
        HearingRoom x = new HearingRoom();
        int d = Rooms.ready(x, 0);
        int l = x.listener(1);
        x.limen(l, 0, 7, 40);
        x.seed(l, seed, spread);
        int ahead = x.test(d, l, 0, 0);
        x.rule(ahead, 1, 0);
        x.run(ahead, draw - 1);
        int t = x.test(d, l, 0, 7);
        x.rule(t, 7, -20);
        x.rule(t, 0, level);
        return x.step(t);
    }

    private static void dueLuck(int seed, int spread, int draw) {
        int luck = luck(seed, spread, draw);
        String told = "draw " + draw + " of seed " + seed + ", spread " + spread;
        c.due(told + " is at the limen", answerAt(40 - luck, seed, spread, draw), 1);
        c.due(told + " is one below it", answerAt(39 - luck, seed, spread, draw), 0);
    }

    /** x becomes x * 1103515245 + 12345 (32 bits, wrapping), LUCK is the rest of (x >>> 16) by 2 s + 1, less s. */
    private static void luckOfOneAnswer() {
        int[] seeds = {0, 1, 2, -1, -2, 7, 12345, -12345, 65535, 65536, Integer.MAX_VALUE, Integer.MIN_VALUE,
            0x7fff0000, 0xffff0000, 1103515245};
        int[] spreads = {0, 1, 2, 10, 19, 20};
        for (int seed : seeds) for (int spread : spreads) dueLuck(seed, spread, 1);
    }

    /** LUCK is drawn for each answer. */
    private static void luckGoesOn() {
        for (int draw = 2; draw <= 30; draw++) {
            dueLuck(-5, 20, draw);
            dueLuck(Integer.MAX_VALUE, 3, draw);
            dueLuck(0, 1, draw);
        }
        // a SEED 0 and a SPREAD 0 at first: no luck at all
        HearingRoom x = new HearingRoom();
        int d = Rooms.ready(x, 0);
        int l = x.listener(1);
        x.limen(l, 0, 0, 40);
        int t = x.test(d, l, 0, 0);
        c.due("40 at first", x.step(t), 1);
        c.due("20 at first", x.step(t), 0);
        // a seed that is told anew is where the next draw begins
        HearingRoom y = new HearingRoom();
        Rooms.ready(y, 0);
        y.listener(1);
        int first = y.test(0, 0, 0, 0);
        y.rule(first, 1, 0);
        y.seed(0, 9, 3);
        y.run(first, 2);
        c.due("seed told anew", y.seed(0, 9, 20), 1);
        y.limen(0, 0, 1, 40);
        int second = y.test(0, 0, 0, 1);
        y.rule(second, 0, 40 - luck(9, 20, 1));
        c.due("begins anew with it", y.step(second), 1);
    }

    private static int seedWith(int luck, int spread, int draw) {
        for (int seed = 0; seed < 100000; seed++) if (luck(seed, spread, draw) == luck) return seed;
        c.due("no seed for luck " + luck, 0, 1);
        return 0;
    }

    /** The rest .. by 2 s + 1, less s: from -s to s. */
    private static void luckOfEndsOfTheSpread() {
        int[] spreads = {1, 15, 16, 20};
        for (int spread : spreads) {
            for (int luck = -spread; luck <= spread; luck += spread) dueLuck(seedWith(luck, spread, 1), spread, 1);
        }
    }

    /** One tone without luck at a level on an ear. */
    private static int heard(int level, int ear, int own, int other, int noise) {
        HearingRoom x = new HearingRoom();
        int d = Rooms.ready(x, 0);
        int l = x.listener(1);
        x.limen(l, ear, 3, own);
        x.limen(l, 1 - ear, 3, other);
        int t = x.test(d, l, ear, 3);
        x.rule(t, 7, -20);
        x.rule(t, 8, 120);
        x.rule(t, 0, level);
        x.calibrate(d, 3, -100, 1);
        x.noise(t, noise);
        return x.step(t);
    }

    private static void dueHeardFrom(String told, int level, int own, int other, int noise) {
        for (int ear = 0; ear < 2; ear++) {
            c.due(told + " at " + level, heard(level, ear, own, other, noise), 1);
            if (level > -20) c.due(told + " below " + level, heard(level - 1, ear, own, other, noise), 0);
        }
    }

    /** If h is not below its LIMEN there. */
    private static void notBelowItsLimen() {
        dueHeardFrom("limen 30", 30, 30, NOTHING, NOTHING);
        dueHeardFrom("limen 120", 120, 120, NOTHING, NOTHING);
        dueHeardFrom("limen -19", -19, -19, NOTHING, NOTHING);
        dueHeardFrom("limen -20", -20, -20, NOTHING, NOTHING);
        dueHeardFrom("limen 0", 0, 0, NOTHING, NOTHING);
        dueHeardFrom("limen 30 in noise 80", 30, 30, NOTHING, 80);
    }

    /** Nor below n - 50. */
    private static void notBelowNoiseLess50() {
        dueHeardFrom("noise 81", 31, 30, NOTHING, 81);
        dueHeardFrom("noise 120", 70, -20, NOTHING, 120);
        dueHeardFrom("noise 50", 0, -20, NOTHING, 50);
        dueHeardFrom("noise -20", -20, -20, NOTHING, -20);
    }

    /** Or h - 40 is not below the LIMEN of the other EAR, nor below n. */
    private static void heardByTheOtherEar() {
        dueHeardFrom("other limen 20", 60, NOTHING, 20, NOTHING);
        dueHeardFrom("other limen 80", 120, NOTHING, 80, NOTHING);
        dueHeardFrom("other limen -20", 20, NOTHING, -20, NOTHING);
        dueHeardFrom("other limen 20, noise 20", 60, NOTHING, 20, 20);
        dueHeardFrom("other limen 20, noise 21", 61, NOTHING, 20, 21);
        dueHeardFrom("other limen 20, noise -20", 60, NOTHING, 20, -20);
        dueHeardFrom("other limen -20, noise 0", 40, NOTHING, -20, 0);
        dueHeardFrom("other limen -20, noise -20", 20, NOTHING, -20, -20);
        dueHeardFrom("other limen -20, noise -19", 21, NOTHING, -20, -19);
        dueHeardFrom("own limen 61, other 20", 60, 61, 20, NOTHING);
        dueHeardFrom("own limen 59, other 20", 59, 59, 20, NOTHING);
        // the own ear is kept by noise 112 up to 62, the other one up to 152
        dueHeardFrom("own limen 0, other 0, noise 112", 62, 0, 0, 112);
    }

    /** A LIMEN that is NOTHING is never heard; without noise that is not looked at. */
    private static void limenThatIsNothing() {
        for (int ear = 0; ear < 2; ear++) {
            c.due("both are nothing", heard(120, ear, NOTHING, NOTHING, NOTHING), 0);
            c.due("both are nothing in noise", heard(120, ear, NOTHING, NOTHING, -20), 0);
            c.due("own is nothing, the other too high", heard(120, ear, NOTHING, 81, -20), 0);
            c.due("without noise -20 is enough", heard(-20, ear, -20, NOTHING, NOTHING), 1);
        }
    }

    /** h being the LEVEL and LUCK. */
    private static void luckIsPartOfH() {
        for (int luck = -20; luck <= 20; luck += 20) {
            int seed = seedWith(luck, 20, 1);
            for (int side = 0; side < 2; side++) {
                HearingRoom x = new HearingRoom();
                int d = Rooms.ready(x, 0);
                int l = x.listener(1);
                x.limen(l, side, 0, -20);
                x.seed(l, seed, 20);
                // by its own ear noise less 50 is 25, by the other one 40 more than the noise is 60
                int least = side == 0 ? 25 : 60;
                int t = x.test(d, l, 0, 0);
                x.noise(t, side == 0 ? 75 : 20);
                x.rule(t, 0, least - luck);
                c.due("at the noise with luck " + luck, x.step(t), 1);
                x.seed(l, seed, 20);
                int u = x.test(d, l, 0, 0);
                x.noise(u, side == 0 ? 75 : 20);
                x.rule(u, 0, least - luck - 1);
                c.due("below the noise with luck " + luck, x.step(u), 0);
            }
        }
    }

    /** To a SILENT tone: yes, if LUCK is above 15. */
    private static void silentTones() {
        int[] lucks = {-20, 0, 15, 16, 20};
        for (int luck : lucks) dueSilent(luck, 20);
        dueSilent(15, 15);
        dueSilent(15, 16);
        dueSilent(16, 16);
        dueSilent(0, 0);
    }

    private static void dueSilent(int luck, int spread) {
        for (int limen = -1; limen <= 0; limen++) {
            HearingRoom x = new HearingRoom();
            int d = Rooms.ready(x, 0);
            int l = x.listener(1);
            x.limen(l, 0, 0, limen < 0 ? NOTHING : -20);
            x.seed(l, seedWith(luck, spread, 2), spread);
            int t = x.test(d, l, 0, 0);
            x.rule(t, 9, 2);
            x.noise(t, 100);
            x.step(t);
            c.due("luck " + luck + " to a silent tone", x.step(t), luck > 15 ? 1 : 0);
            c.due("it was silent", x.told(t, 6), 1);
        }
    }

    /** 1 ANSWERS that were ever told (0 by LIMENS), 2 answers it gave (in all). BAD. */
    private static void whatIsToldOfThem() {
        busy.range("listenerOf(0, what)", 0, 2, (x, v) -> x.listenerOf(0, v));
        busy.range("listenerOf(1, what)", 0, 2, (x, v) -> x.listenerOf(1, v));
        busy.range("listenerOf(listener, 0)", 0, 1, (x, v) -> x.listenerOf(v, 0));
        full.letBy("listenerOf(0, 1)", 200, x -> x.listenerOf(0, 1));
        full.letBy("listenerOf(1, 1)", 0, x -> x.listenerOf(1, 1));
        full.letBy("listenerOf(39, 0)", 1, x -> x.listenerOf(39, 0));
        busy.letBy("listenerOf(1, 1) by LIMENS", 0, x -> x.listenerOf(1, 1));
        HearingRoom x = new HearingRoom();
        c.dueBad(x, "listenerOf(0, 0) without any", x.listenerOf(0, 0));
        // silent ones are answered, too, and those of plateaus count
        int t = Rooms.recited(x, "1010" + "10" + "10");
        x.rule(t, 9, 2);
        x.run(t, 4);
        c.due("four", x.listenerOf(0, 2), 4);
        int u = x.test(0, 0, 0, 0);
        x.rule(u, 5, 1);
        x.rule(u, 4, 1);
        x.plateau(u, 0, 1, 2, 2, 0);
        c.due("four more", x.listenerOf(0, 2), 8);
    }
}
