/**
 * A hearing room: devices, listeners, tests and charts, as ../shared/DOC.md promises them.
 *
 * Refusals are answers, never exceptions, so every argument is looked at ahead of its use. What is
 * no number is never held as a double or a float: devices mark it, charts keep it as bits.
 */
public final class HearingRoom {
    public static final int NOTHING = -1000, BAD = -1001, FULL = -1002, STATE = -1003;

    private static final int MOST_DEVICES = 24, MOST_LISTENERS = 40, MOST_TESTS = 60, MOST_CHARTS = 20;
    private static final int EARS = 2, WAYS = 2, TONES = 24;
    private static final int LOWEST_LEVEL = -20, HIGHEST_LEVEL = 120;
    private static final int MOST_ANSWERS = 200, MOST_AT_ONCE = 31, MOST_SPREAD = 20;
    private static final int MOST_STEPS = 200, MOST_TURNS = 20, MOST_CHANGE = 1000;

    private static final int PHONE = 0, BONE = 1, INSERT = 2, FIELD = 3, PAIR = 4;
    private static final int BY_SCRIPT = 0, BY_LIMENS = 1;

    private static final int UNPLUGGED = 1, LACKING = 2, SHORT = 3, NOUGHT = 4, ENDLESS = 5, LOUD = 6;
    private static final int UNFIT = 7, UNREADY = 8, SHARED = 9;

    private static final int START = 0, FIRST = 1, DOWN = 2, UP = 3, TURNS = 4, LAST = 5;
    private static final int MOST = 6, LOW = 7, HIGH = 8, CATCH = 9, UNSURE = 10;

    private static final int BY_TURNS = 1, BY_HITS = 2, BY_MOST = 3;

    private final Device[] devices = new Device[MOST_DEVICES];
    private int deviceCount;
    private final Listener[] listeners = new Listener[MOST_LISTENERS];
    private int listenerCount;
    private final Trial[] trials = new Trial[MOST_TESTS];
    private int trialCount;
    private final Chart[] charts = new Chart[MOST_CHARTS];
    private int chartCount;
    private final Log log = new Log();
    private final Plateau latestPlateau = new Plateau();
    /** Plateaus and replays climb here, so that none of them makes anything new. */
    private final Staircase spareStairs = new Staircase();
    private final Listener reciter = new Listener(BY_SCRIPT);
    private int refusal;

    public HearingRoom() {
    }

    // ---- devices

    public int device(int kind, int a, int b) {
        if (kind < PHONE || kind > PAIR) return refuse(BAD);
        if (kind == PAIR && !(isSingle(a) && isSingle(b))) return refuse(BAD);
        if (deviceCount >= MOST_DEVICES) return refuse(FULL);
        Device made = new Device(kind);
        if (kind == PAIR) made.join(devices[a], a, devices[b], b);
        devices[deviceCount] = made;
        deviceCount++;
        return grant(deviceCount - 1);
    }

    public int plug(int device, boolean on) {
        if (!isDevice(device)) return refuse(BAD);
        Device d = devices[device];
        boolean was = d.plugged;
        d.plugged = on;
        return grant(asInt(was != on));
    }

    public int row(int device, int n) {
        log.forgetFinding();
        if (!isDevice(device) || n < -1 || n > TONES) return refuse(BAD);
        Device d = devices[device];
        if (d.kind == PAIR) return refuseFinding(UNFIT);
        d.layRow(n);
        return grant(1);
    }

    public int calibrate(int device, int tone, int top, int bottom) {
        log.forgetFinding();
        if (!isDevice(device) || !isTone(tone)) return refuse(BAD);
        Device d = devices[device];
        int lack = d.lackOfPlace(tone);
        if (lack != 0) return refuseFinding(lack);
        d.setOffset(tone, top, bottom);
        return grant(1);
    }

    public long offset(int device, int tone) {
        log.forgetFinding();
        if (!isDevice(device) || !isTone(tone)) return noBits(BAD);
        Device d = devices[device];
        int lack = d.lackOfPlace(tone);
        if (lack != 0) return noBits(refuseFinding(lack));
        return grantBits(d.offsetBits(tone));
    }

    public long drive(int device, int ear, int tone, int level) {
        log.forgetFinding();
        if (!isDevice(device) || !isEar(ear) || !isTone(tone) || !isLevel(level)) return noBits(BAD);
        log.forgetBodies();
        int found = devices[device].driveWith(log, ear, tone, level);
        if (found != 0) return noBits(refuseFinding(found));
        return grantBits(Bits.ofDouble((double) log.driven));
    }

    public int kindOf(int device, int what) {
        if (!isDevice(device)) return refuse(BAD);
        Device d = devices[device];
        switch (what) {
            case 0: return grant(d.kind);
            case 1: return grant(asInt(d.plugged));
            case 2: return grant(d.places < 0 ? NOTHING : d.places);
            case 3: return grant(d.ownWay());
            case 4: return grant(d.rightNumber);
            case 5: return grant(d.leftNumber);
            default: return refuse(BAD);
        }
    }

    // ---- listeners

    public int listener(int sort) {
        if (sort != BY_SCRIPT && sort != BY_LIMENS) return refuse(BAD);
        if (listenerCount >= MOST_LISTENERS) return refuse(FULL);
        listeners[listenerCount] = new Listener(sort);
        listenerCount++;
        return grant(listenerCount - 1);
    }

    public int script(int listener, int answers, int n) {
        if (!isListenerBy(BY_SCRIPT, listener) || n < 1 || n > MOST_AT_ONCE) return refuse(BAD);
        Listener l = listeners[listener];
        if (l.scripted + n > MOST_ANSWERS) return refuse(FULL);
        for (int i = 0; i < n; i++) l.learn(((answers >>> i) & 1) == 1);
        return grant(l.scripted);
    }

    public int limen(int listener, int ear, int tone, int level) {
        if (!isListenerBy(BY_LIMENS, listener) || !isEar(ear) || !isTone(tone)) return refuse(BAD);
        if (!isLevelOrNothing(level)) return refuse(BAD);
        int[] limens = listeners[listener].limens;
        int place = ear * TONES + tone;
        int was = limens[place];
        limens[place] = level;
        return grant(was);
    }

    public int seed(int listener, int seed, int spread) {
        if (!isListenerBy(BY_LIMENS, listener) || spread < 0 || spread > MOST_SPREAD) return refuse(BAD);
        Listener l = listeners[listener];
        l.luckSeed = seed;
        l.spread = spread;
        return grant(1);
    }

    public int listenerOf(int listener, int what) {
        if (!isListener(listener)) return refuse(BAD);
        Listener l = listeners[listener];
        switch (what) {
            case 0: return grant(l.sort);
            case 1: return grant(l.scripted);
            case 2: return grant(l.given);
            default: return refuse(BAD);
        }
    }

    // ---- tests

    public int test(int device, int listener, int ear, int tone) {
        if (!isDevice(device) || !isListener(listener) || !isEar(ear) || !isTone(tone)) return refuse(BAD);
        if (trialCount >= MOST_TESTS) return refuse(FULL);
        Trial made = new Trial(devices[device], listeners[listener], ear, tone);
        made.deviceNumber = device;
        made.listenerNumber = listener;
        trials[trialCount] = made;
        trialCount++;
        return grant(trialCount - 1);
    }

    public int rule(int test, int what, int v) {
        if (!isTrial(test)) return refuse(BAD);
        Trial t = trials[test];
        if (!t.mayRule(what, v)) return refuse(BAD);
        if (t.stairs.answered > 0) return refuse(STATE);
        return grant(t.setRule(what, v));
    }

    public int noise(int test, int level) {
        if (!isTrial(test) || !isLevelOrNothing(level)) return refuse(BAD);
        Trial t = trials[test];
        if (t.stairs.endedBy != 0) return refuse(STATE);
        int was = t.noiseLevel;
        t.noiseLevel = level;
        return grant(was);
    }

    public int step(int test) {
        log.forgetFinding();
        if (!isTrial(test)) return refuse(BAD);
        Trial t = trials[test];
        if (t.stairs.endedBy != 0) return refuse(STATE);
        log.forgetBodies();
        int heard = t.climb(log, t.stairs, t.answerer, t.noiseLevel);
        return heard < 0 ? refuseFinding(-heard) : grant(heard);
    }

    public int run(int test, int n) {
        log.forgetFinding();
        if (!isTrial(test) || n < 0 || n > MOST_STEPS) return refuse(BAD);
        Trial t = trials[test];
        if (t.stairs.endedBy != 0) return refuse(STATE);
        log.forgetBodies();
        int before = t.stairs.answered;
        int found = t.climbOn(log, t.stairs, t.answerer, t.noiseLevel, n);
        log.note(found);
        return grant(t.stairs.answered - before);
    }

    public int told(int test, int what) {
        if (!isTrial(test)) return refuse(BAD);
        Trial t = trials[test];
        Staircase s = t.stairs;
        switch (what) {
            case 0: return grant(s.level);
            case 1: return grant(s.answered);
            case 2: return grant(s.turnCount);
            case 3: return grant(s.endedBy);
            case 4: return grant(s.beyond);
            case 5: return grant(s.falseOnes);
            case 6: return grant(s.silentOnes);
            case 7: return grant(t.noiseLevel);
            case 8: return grant(s.hits);
            case 9: return grant(t.deviceNumber);
            case 10: return grant(t.listenerNumber);
            case 11: return grant(t.ear);
            case 12: return grant(t.pitch);
            default: return refuse(BAD);
        }
    }

    public int tone(int test, int k) {
        log.forgetFinding();
        if (!isTrial(test)) return refuse(BAD);
        Staircase s = trials[test].stairs;
        return s.hasAnswer(k) ? grant(s.levels[k]) : refuseFinding(UNREADY);
    }

    public int answer(int test, int k) {
        log.forgetFinding();
        if (!isTrial(test)) return refuse(BAD);
        Staircase s = trials[test].stairs;
        return s.hasAnswer(k) ? grant(asInt(s.answers[k])) : refuseFinding(UNREADY);
    }

    public int turn(int test, int k) {
        log.forgetFinding();
        if (!isTrial(test)) return refuse(BAD);
        Staircase s = trials[test].stairs;
        return s.hasTurn(k) ? grant(s.turns[k]) : refuseFinding(UNREADY);
    }

    public int threshold(int test) {
        if (!isTrial(test)) return refuse(BAD);
        return grant(trials[test].thresholdOf(trials[test].stairs));
    }

    public int rate(int test) {
        log.forgetFinding();
        if (!isTrial(test)) return refuse(BAD);
        Staircase s = trials[test].stairs;
        return s.silentOnes == 0 ? refuseFinding(SHARED) : grant(s.falseRate());
    }

    public int unsure(int test) {
        log.forgetFinding();
        if (!isTrial(test)) return refuse(BAD);
        Trial t = trials[test];
        if (t.stairs.silentOnes == 0) return refuseFinding(SHARED);
        return grant(asInt(t.stairs.falseRate() > t.rules[UNSURE]));
    }

    public int plateau(int test, int from, int by, int many, int wide, int span) {
        log.forgetFinding();
        if (!isTrial(test) || !isLevel(from) || !Plateau.isPlan(by, many, wide, span)) return refuse(BAD);
        Trial t = trials[test];
        if (t.stairs.answered > 0) return refuse(STATE);
        log.forgetBodies();
        latestPlateau.plan(by, many, wide, span);
        int known = latestPlateau.seek(log, t, spareStairs, from);
        log.note(latestPlateau.endingFinding);
        return grant(known);
    }

    public int plateauOf(int what) {
        switch (what) {
            case 0: return grant(asInt(latestPlateau.known));
            case 1: return grant(latestPlateau.lastNoise);
            case 2: return grant(latestPlateau.begunStairs);
            case 3: return grant(latestPlateau.answered);
            case 4: return grant(latestPlateau.endingFinding);
            default: return refuse(BAD);
        }
    }

    public int replay(int test) {
        log.forgetFinding();
        if (!isTrial(test)) return refuse(BAD);
        Trial t = trials[test];
        int kept = t.stairs.answered;
        if (kept == 0) return refuse(STATE);
        log.forgetBodies();
        reciter.learnAnew(t.stairs);
        spareStairs.begin(t.rules[START]);
        int found = t.climbOn(log, spareStairs, reciter, t.noiseLevel, kept);
        if (found != 0) return refuseFinding(found);
        boolean same = t.stairs.isLike(spareStairs) && t.thresholdOf(t.stairs) == t.thresholdOf(spareStairs);
        return grant(asInt(same));
    }

    // ---- charts

    public int chart() {
        if (chartCount >= MOST_CHARTS) return refuse(FULL);
        charts[chartCount] = new Chart();
        chartCount++;
        return grant(chartCount - 1);
    }

    public int enter(int chart, int test) {
        if (!isChart(chart) || !isTrial(test)) return refuse(BAD);
        Trial t = trials[test];
        if (t.stairs.endedBy == 0) return refuse(STATE);
        int found = t.thresholdOf(t.stairs);
        long bits = found == NOTHING ? Bits.NAN : Bits.ofDouble((double) found);
        charts[chart].setValue(t.ear, t.device.wayFor(t.ear), t.pitch, bits);
        return grant(asInt(found != NOTHING));
    }

    public int put(int chart, int ear, int way, int tone, long bits) {
        if (!isPlace(chart, ear, way) || !isTone(tone)) return refuse(BAD);
        if (!Bits.isNan(bits) && !Bits.isWithinThousand(bits)) return refuse(BAD);
        charts[chart].setValue(ear, way, tone, Bits.isNan(bits) ? Bits.NAN : bits);
        return grant(1);
    }

    public long at(int chart, int ear, int way, int tone) {
        if (!isPlace(chart, ear, way) || !isTone(tone)) return noBits(BAD);
        return grantBits(charts[chart].bitsAt(ear, way, tone));
    }

    public int between(int chart, int ear, int way, int tone) {
        if (!isPlace(chart, ear, way) || !isTone(tone)) return refuse(BAD);
        return grant(charts[chart].fillBetween(ear, way, tone));
    }

    public int marked(int chart, int ear, int way, int tone) {
        if (!isPlace(chart, ear, way) || !isTone(tone)) return refuse(BAD);
        return grant(asInt(charts[chart].isMarked(ear, way, tone)));
    }

    public long mean(int chart, int ear, int way, int tones) {
        if (!isPlace(chart, ear, way)) return noBits(BAD);
        return grantBits(charts[chart].meanBits(ear, way, tones));
    }

    public int lacking(int chart, int ear, int way, int tones) {
        if (!isPlace(chart, ear, way)) return refuse(BAD);
        return grant(charts[chart].countEmpty(ear, way, tones));
    }

    public long gap(int chart, int ear, int tone) {
        if (!isChart(chart) || !isEar(ear) || !isTone(tone)) return noBits(BAD);
        long byAir = charts[chart].bitsAt(ear, 0, tone);
        long byBone = charts[chart].bitsAt(ear, 1, tone);
        if (Bits.isNan(byAir) || Bits.isNan(byBone)) return grantBits(Bits.NAN);
        return grantBits(Bits.ofDouble(Bits.toDouble(byAir) - Bits.toDouble(byBone)));
    }

    public int change(int chart, int earlier, int ear, int way, int tone, int step) {
        if (!isPlace(chart, ear, way) || !isChart(earlier) || !isTone(tone)) return refuse(BAD);
        if (step < 0 || step > MOST_CHANGE) return refuse(BAD);
        long now = charts[chart].bitsAt(ear, way, tone);
        long then = charts[earlier].bitsAt(ear, way, tone);
        if (Bits.isNan(now) || Bits.isNan(then)) return grant(NOTHING);
        double far = Bits.toDouble(now) - Bits.toDouble(then);
        double limit = (double) step;
        return grant(asInt(far > limit || 0.0 - far > limit));
    }

    public int compare(int chart, int ear, int way, int t, int u) {
        if (!isPlace(chart, ear, way) || !isTone(t) || !isTone(u)) return refuse(BAD);
        long one = charts[chart].bitsAt(ear, way, t);
        long other = charts[chart].bitsAt(ear, way, u);
        if (Bits.isNan(one) || Bits.isNan(other)) return grant(NOTHING);
        return grant(Bits.sizeOrder(one, other));
    }

    public int order(int chart, int ear, int way, int k) {
        if (!isPlace(chart, ear, way) || k < 0 || k >= TONES) return refuse(BAD);
        return grant(charts[chart].toneOfRank(ear, way, k));
    }

    // ---- what is told

    public int silent(int what) {
        switch (what) {
            case 0: return log.begun;
            case 1: return log.silenced;
            case 2: return log.begun - log.silenced;
            default: return BAD;
        }
    }

    public int findings(int finding) {
        return finding < UNPLUGGED || finding > SHARED ? BAD : log.found[finding];
    }

    public int finding() {
        return log.latestFinding;
    }

    public int trace(int k) {
        return k < 0 || k >= log.bodyCount ? NOTHING : log.bodies[k];
    }

    public int count(int what) {
        switch (what) {
            case 0: return deviceCount;
            case 1: return listenerCount;
            case 2: return trialCount;
            case 3: return chartCount;
            default: return BAD;
        }
    }

    public int status() {
        return refusal;
    }

    public long digest() {
        long h = 17L;
        for (int i = 0; i < trialCount; i++) h = trials[i].stairs.digestFrom(h);
        for (int i = 0; i < chartCount; i++) h = charts[i].digestFrom(h);
        return grantBits(h);
    }

    // ---- what the calls share

    private int refuse(int why) {
        refusal = why;
        return why;
    }

    private int refuseFinding(int found) {
        log.note(found);
        return refuse(-100 - found);
    }

    private long noBits(int why) {
        refusal = why;
        return Bits.NAN;
    }

    private int grant(int answer) {
        refusal = 0;
        return answer;
    }

    private long grantBits(long bits) {
        refusal = 0;
        return bits;
    }

    private boolean isDevice(int device) {
        return device >= 0 && device < deviceCount;
    }

    private boolean isSingle(int device) {
        return isDevice(device) && devices[device].kind != PAIR;
    }

    private boolean isListener(int listener) {
        return listener >= 0 && listener < listenerCount;
    }

    private boolean isListenerBy(int sort, int listener) {
        return isListener(listener) && listeners[listener].sort == sort;
    }

    private boolean isTrial(int test) {
        return test >= 0 && test < trialCount;
    }

    private boolean isChart(int chart) {
        return chart >= 0 && chart < chartCount;
    }

    private boolean isPlace(int chart, int ear, int way) {
        return isChart(chart) && isEar(ear) && way >= 0 && way < WAYS;
    }

    private static boolean isEar(int ear) {
        return ear >= 0 && ear < EARS;
    }

    private static boolean isTone(int tone) {
        return tone >= 0 && tone < TONES;
    }

    private static boolean isLevel(int level) {
        return level >= LOWEST_LEVEL && level <= HIGHEST_LEVEL;
    }

    private static boolean isLevelOrNothing(int level) {
        return level == NOTHING || isLevel(level);
    }

    private static int asInt(boolean b) {
        return b ? 1 : 0;
    }

    /** What the room remembers of sounding: bodies gone through, findings, tones begun and silenced. */
    private static final class Log {
        private static final int MOST_BODIES = 60;

        private final int[] bodies = new int[MOST_BODIES];
        private int bodyCount;
        private final int[] found = new int[SHARED + 1];
        private int latestFinding;
        private int begun;
        private int silenced;
        /** What the latest driving without a finding came to. */
        private float driven;

        void forgetFinding() {
            latestFinding = 0;
        }

        void forgetBodies() {
            bodyCount = 0;
        }

        void goThrough(int body) {
            if (bodyCount < MOST_BODIES) {
                bodies[bodyCount] = body;
                bodyCount++;
            }
        }

        /** Takes 0 too, so that a run may end without asking whether anything was found. */
        void note(int finding) {
            latestFinding = finding;
            if (finding >= UNPLUGGED && finding <= SHARED) found[finding]++;
        }
    }

    /** A device of any kind; a pair has its two sides, all others a row of offsets or none. */
    private static final class Device {
        private static final int BODY_PHONE = 1, BODY_BONE = 2, BODY_INSERT = 3, BODY_FIELD = 4;
        private static final int BODY_PAIR = 5, BODY_MASK = 10, BODY_PAIR_MASK = 11;

        private final int kind;
        private boolean plugged;
        /** How many offsets there are; below 0: no row. */
        private int places = -1;
        private final float[] offsets = new float[TONES];
        /** Marks offsets that are no number, since a float that is none may not be worked with. */
        private final boolean[] noughts = new boolean[TONES];
        private Device right;
        private Device left;
        private int rightNumber = NOTHING;
        private int leftNumber = NOTHING;

        Device(int kind) {
            this.kind = kind;
        }

        void join(Device rightOne, int rightOnesNumber, Device leftOne, int leftOnesNumber) {
            right = rightOne;
            rightNumber = rightOnesNumber;
            left = leftOne;
            leftNumber = leftOnesNumber;
        }

        void layRow(int n) {
            places = n;
            for (int i = 0; i < TONES; i++) {
                offsets[i] = 0.0f;
                noughts[i] = false;
            }
        }

        int lackOfPlace(int tone) {
            if (kind == PAIR) return UNFIT;
            if (places < 0) return LACKING;
            return tone < places ? 0 : SHORT;
        }

        void setOffset(int tone, int top, int bottom) {
            noughts[tone] = top == 0 && bottom == 0;
            offsets[tone] = noughts[tone] ? 0.0f : (float) top / (float) bottom;
        }

        long offsetBits(int tone) {
            return noughts[tone] ? Bits.NAN : Bits.ofDouble((double) offsets[tone]);
        }

        int ownWay() {
            return asInt(kind == BONE);
        }

        int wayFor(int ear) {
            Device side = sideFor(ear);
            return side == null ? ownWay() : side.ownWay();
        }

        /** The side of a pair that an ear is driven by; null for all others. */
        private Device sideFor(int ear) {
            return ear == 0 ? right : left;
        }

        /** Answers the finding, or 0 with what it came to in the log. */
        int driveWith(Log log, int ear, int tone, int level) {
            if (!plugged) return UNPLUGGED;
            Device side = sideFor(ear);
            if (side == null) return driveAlone(log, tone, level);
            log.goThrough(BODY_PAIR);
            return side.plugged ? side.driveAlone(log, tone, level) : UNPLUGGED;
        }

        /** Whether it is plugged in was looked at already, ahead of the first body. */
        private int driveAlone(Log log, int tone, int level) {
            if (kind == FIELD) {
                log.goThrough(BODY_FIELD);
            } else {
                if (kind == INSERT) log.goThrough(BODY_INSERT);
                if (kind == INSERT || kind == BONE) log.goThrough(BODY_BONE);
                log.goThrough(BODY_PHONE);
            }
            int lack = lackOfPlace(tone);
            if (lack != 0) return lack;
            if (noughts[tone]) return NOUGHT;
            if (isEndless(offsets[tone])) return ENDLESS;
            float d = loudness(offsets[tone], level);
            if (d > 110.0f) return LOUD;
            log.driven = d;
            return 0;
        }

        private static boolean isEndless(float offset) {
            return offset > 3.4028235e38f || offset < -3.4028235e38f;
        }

        private float loudness(float offset, int level) {
            float d = (float) level + offset;
            if (kind == BONE || kind == INSERT) d = d + 15.0f;
            if (kind == INSERT) d = d - 20.0f;
            if (kind == FIELD) d = d - 3.0f;
            return d;
        }

        /** Noise goes to the ear that is not driven, so a pair masks by its other side. */
        int maskFor(Log log, int ear) {
            Device other = sideFor(1 - ear);
            if (other == null) return maskAlone(log);
            if (!plugged) return UNPLUGGED;
            log.goThrough(BODY_PAIR_MASK);
            return other.maskAlone(log);
        }

        private int maskAlone(Log log) {
            if (kind == FIELD) return UNFIT;
            if (!plugged) return UNPLUGGED;
            log.goThrough(BODY_MASK);
            return 0;
        }
    }

    /** Answers by a script, one after the other, or by limens with luck. */
    private static final class Listener {
        private final int sort;
        private final boolean[] lines = new boolean[MOST_ANSWERS];
        private int scripted;
        private int taken;
        private int given;
        private final int[] limens = new int[EARS * TONES];
        private int luckSeed;
        private int spread;

        Listener(int sort) {
            this.sort = sort;
            for (int i = 0; i < EARS * TONES; i++) limens[i] = NOTHING;
        }

        void learn(boolean yes) {
            if (scripted < MOST_ANSWERS) {
                lines[scripted] = yes;
                scripted++;
            }
        }

        void learnAnew(Staircase stairs) {
            scripted = 0;
            taken = 0;
            for (int i = 0; i < stairs.answered; i++) learn(stairs.answers[i]);
        }

        /** To a tone on an ear at a level (NOTHING: a silent one): 1, 0; below 0: a finding. */
        int hear(int ear, int tone, int level, int noise) {
            if (sort == BY_SCRIPT && taken >= scripted) return -UNREADY;
            given++;
            if (sort == BY_SCRIPT) {
                taken++;
                return asInt(lines[taken - 1]);
            }
            int luck = drawLuck();
            if (level == NOTHING) return asInt(luck > 15);
            int h = level + luck;
            int own = limens[ear * TONES + tone];
            int other = limens[(1 - ear) * TONES + tone];
            return asInt(reaches(h, own, noise, 50) || reaches(h - 40, other, noise, 0));
        }

        private static boolean reaches(int h, int limen, int noise, int shield) {
            if (limen == NOTHING || h < limen) return false;
            return noise == NOTHING || h >= noise - shield;
        }

        private int drawLuck() {
            luckSeed = luckSeed * 1103515245 + 12345;
            int width = 2 * spread + 1;
            return width > 0 ? (luckSeed >>> 16) % width - spread : 0;
        }
    }

    /** How far a staircase came; whose it is and by what rule it goes, a trial knows. */
    private static final class Staircase {
        private static final int NONE_YET = -1;

        private int level;
        private int answered;
        private final int[] levels = new int[MOST_STEPS];
        private final boolean[] answers = new boolean[MOST_STEPS];
        private int turnCount;
        private final int[] turns = new int[MOST_TURNS];
        private int endedBy;
        private int beyond;
        private int falseOnes;
        private int silentOnes;
        private int hits;
        /** The latest answer to a tone that was not silent. */
        private int latestHeard = NONE_YET;

        void begin(int start) {
            level = start;
            answered = 0;
            turnCount = 0;
            endedBy = 0;
            beyond = 0;
            falseOnes = 0;
            silentOnes = 0;
            hits = 0;
            latestHeard = NONE_YET;
        }

        boolean hasAnswer(int k) {
            return k >= 0 && k < answered && k < MOST_STEPS;
        }

        boolean hasTurn(int k) {
            return k >= 0 && k < turnCount && k < MOST_TURNS;
        }

        void take(boolean quiet, boolean yes, int[] rules) {
            if (answered >= MOST_STEPS) return;
            levels[answered] = quiet ? NOTHING : level;
            answers[answered] = yes;
            answered++;
            if (quiet) {
                silentOnes++;
                if (yes) falseOnes++;
            } else {
                move(yes, rules);
            }
            endIfDue(rules);
        }

        /** Silent tones never come here, since they leave level, turns and hits alone. */
        private void move(boolean yes, int[] rules) {
            int heard = asInt(yes);
            if (latestHeard != NONE_YET && latestHeard != heard) addTurn();
            latestHeard = heard;
            boolean hit = yes ? level == rules[LOW] : level == rules[HIGH];
            hits = hit ? hits + 1 : 0;
            if (yes) {
                level = Math.max(rules[LOW], level - (turnCount == 0 ? rules[FIRST] : rules[DOWN]));
            } else {
                level = Math.min(rules[HIGH], level + (turnCount == 0 ? rules[FIRST] : rules[UP]));
            }
        }

        private void addTurn() {
            if (turnCount < MOST_TURNS) {
                turns[turnCount] = level;
                turnCount++;
            }
        }

        private void endIfDue(int[] rules) {
            if (turnCount >= rules[TURNS]) {
                endedBy = BY_TURNS;
            } else if (hits >= 2) {
                endedBy = BY_HITS;
                beyond = latestHeard == 1 ? -1 : 1;
            } else if (answered >= rules[MOST]) {
                endedBy = BY_MOST;
            }
        }

        /** Of the last turns, rising, the middle one; ranks are counted, so nothing is sorted or made. */
        int middleTurn(int last) {
            int from = turnCount - last;
            if (from < 0) return NOTHING;
            for (int i = from; i < turnCount; i++) {
                if (rankAmong(from, i) == last / 2) return turns[i];
            }
            return NOTHING;
        }

        private int rankAmong(int from, int i) {
            int rank = 0;
            for (int j = from; j < turnCount; j++) {
                if (turns[j] < turns[i] || (turns[j] == turns[i] && j < i)) rank++;
            }
            return rank;
        }

        int falseRate() {
            return silentOnes > 0 ? falseOnes * 1000 / silentOnes : 0;
        }

        boolean isLike(Staircase other) {
            if (answered != other.answered || turnCount != other.turnCount || endedBy != other.endedBy) return false;
            for (int i = 0; i < answered; i++) {
                if (levels[i] != other.levels[i]) return false;
            }
            for (int i = 0; i < turnCount; i++) {
                if (turns[i] != other.turns[i]) return false;
            }
            return true;
        }

        long digestFrom(long h) {
            long mixed = h;
            for (int i = 0; i < answered; i++) {
                mixed = 31L * mixed + levels[i];
                mixed = 31L * mixed + asInt(answers[i]);
            }
            return 31L * mixed + endedBy;
        }
    }

    /** A test: who hears what by which device, and its own staircase. */
    private static final class Trial {
        private static final int[] USUAL = {40, 20, 10, 5, 6, 4, 60, -10, 100, 0, 300};
        private static final int[] LEAST = {-20, 0, 0, 0, 1, 1, 1, -20, -20, 0, 0};
        private static final int[] GREATEST = {120, 60, 60, 60, 20, 20, 200, 120, 120, 20, 1000};

        private final Device device;
        private final Listener answerer;
        private final int ear;
        private final int pitch;
        private int deviceNumber;
        private int listenerNumber;
        private final int[] rules;
        private int noiseLevel = NOTHING;
        private final Staircase stairs;

        Trial(Device device, Listener answerer, int ear, int pitch) {
            this.device = device;
            this.answerer = answerer;
            this.ear = ear;
            this.pitch = pitch;
            rules = USUAL.clone();
            stairs = new Staircase();
            stairs.begin(rules[START]);
        }

        boolean mayRule(int what, int v) {
            if (what < START || what > UNSURE) return false;
            if (v < LEAST[what] || v > GREATEST[what]) return false;
            // every tone silent would leave nothing to hear
            if (what == CATCH && v == 1) return false;
            int start = what == START ? v : rules[START];
            if (start < (what == LOW ? v : rules[LOW])) return false;
            if (start > (what == HIGH ? v : rules[HIGH])) return false;
            return (what == LAST ? v : rules[LAST]) <= (what == TURNS ? v : rules[TURNS]);
        }

        /** Only before the first answer, so a new start is where the staircase begins. */
        int setRule(int what, int v) {
            int was = rules[what];
            rules[what] = v;
            if (what == START) stairs.begin(v);
            return was;
        }

        int thresholdOf(Staircase climbed) {
            return climbed.endedBy == BY_TURNS ? climbed.middleTurn(rules[LAST]) : NOTHING;
        }

        /** One tone: 1 yes, 0 no; below 0 a finding. It is silenced on the one way out. */
        int climb(Log log, Staircase on, Listener by, int noise) {
            boolean quiet = rules[CATCH] > 0 && (on.answered + 1) % rules[CATCH] == 0;
            int found = 0;
            log.begun++;
            if (!quiet && noise != NOTHING) found = device.maskFor(log, ear);
            if (!quiet && found == 0) found = device.driveWith(log, ear, pitch, on.level);
            int heard = found != 0 ? -found : by.hear(ear, pitch, quiet ? NOTHING : on.level, noise);
            if (heard >= 0) on.take(quiet, heard == 1, rules);
            log.silenced++;
            return heard;
        }

        /** Climbs until the end, n answers or a finding, which it answers (0: none). */
        int climbOn(Log log, Staircase on, Listener by, int noise, int n) {
            for (int i = 0; i < n && on.endedBy == 0; i++) {
                int heard = climb(log, on, by, noise);
                if (heard < 0) return -heard;
            }
            return 0;
        }
    }

    /** The latest plateau: its plan and what came of it. */
    private static final class Plateau {
        private static final int MOST_STAIRS = 12;

        private int by;
        private int many;
        private int wide;
        private int span;
        private final int[] thresholds = new int[MOST_STAIRS];
        private boolean known;
        private int lastNoise = NOTHING;
        private int begunStairs;
        private int answered;
        private int endingFinding;

        static boolean isPlan(int by, int many, int wide, int span) {
            if (by < 1 || by > 40 || many < 1 || many > MOST_STAIRS) return false;
            return wide >= 2 && wide <= many && span >= 0 && span <= 60;
        }

        void plan(int newBy, int newMany, int newWide, int newSpan) {
            by = newBy;
            many = newMany;
            wide = newWide;
            span = newSpan;
            known = false;
            lastNoise = NOTHING;
            begunStairs = 0;
            answered = 0;
            endingFinding = 0;
        }

        /** The plateau's threshold, or NOTHING. */
        int seek(Log log, Trial trial, Staircase on, int from) {
            for (int i = 0; i < many && i < MOST_STAIRS; i++) {
                int noise = from + i * by;
                if (noise > HIGHEST_LEVEL) return NOTHING;
                lastNoise = noise;
                begunStairs++;
                on.begin(trial.rules[START]);
                endingFinding = trial.climbOn(log, on, trial.answerer, noise, MOST_STEPS);
                answered += on.answered;
                if (endingFinding != 0) return NOTHING;
                thresholds[i] = trial.thresholdOf(on);
                known = isLevelFrom(i + 1 - wide, i);
                if (known) return thresholds[i];
            }
            return NOTHING;
        }

        private boolean isLevelFrom(int first, int last) {
            if (first < 0) return false;
            int least = thresholds[first];
            int greatest = thresholds[first];
            for (int i = first; i <= last; i++) {
                if (thresholds[i] == NOTHING) return false;
                least = Math.min(least, thresholds[i]);
                greatest = Math.max(greatest, thresholds[i]);
            }
            return greatest - least <= span;
        }
    }

    /** Values by ear, way and tone, kept as bits, so that none is a kind of bits, too. */
    private static final class Chart {
        private final long[] values = new long[EARS * WAYS * TONES];
        private final boolean[] marks = new boolean[EARS * WAYS * TONES];

        Chart() {
            for (int i = 0; i < values.length; i++) values[i] = Bits.NAN;
        }

        private static int placeOf(int ear, int way, int tone) {
            return (ear * WAYS + way) * TONES + tone;
        }

        long bitsAt(int ear, int way, int tone) {
            return values[placeOf(ear, way, tone)];
        }

        boolean isMarked(int ear, int way, int tone) {
            return marks[placeOf(ear, way, tone)];
        }

        void setValue(int ear, int way, int tone, long bits) {
            values[placeOf(ear, way, tone)] = bits;
            marks[placeOf(ear, way, tone)] = false;
        }

        int fillBetween(int ear, int way, int tone) {
            int place = placeOf(ear, way, tone);
            if (!Bits.isNan(values[place])) return 0;
            int below = measuredBelow(ear, way, tone);
            int above = measuredAbove(ear, way, tone);
            if (below < 0 || above < 0) return NOTHING;
            double x = Bits.toDouble(bitsAt(ear, way, below));
            double y = Bits.toDouble(bitsAt(ear, way, above));
            double filled = x + (y - x) * (double) (tone - below) / (double) (above - below);
            values[place] = Bits.ofDouble(filled);
            marks[place] = true;
            return 1;
        }

        private int measuredBelow(int ear, int way, int tone) {
            for (int t = tone - 1; t >= 0; t--) {
                if (isMeasured(placeOf(ear, way, t))) return t;
            }
            return -1;
        }

        private int measuredAbove(int ear, int way, int tone) {
            for (int t = tone + 1; t < TONES; t++) {
                if (isMeasured(placeOf(ear, way, t))) return t;
            }
            return -1;
        }

        /** What was filled in must not bear what is filled in next. */
        private boolean isMeasured(int place) {
            return !Bits.isNan(values[place]) && !marks[place];
        }

        long meanBits(int ear, int way, int tones) {
            double sum = 0.0;
            int many = 0;
            for (int t = 0; t < TONES; t++) {
                long bits = bitsAt(ear, way, t);
                if (((tones >>> t) & 1) == 0 || Bits.isNan(bits)) continue;
                sum = sum + Bits.toDouble(bits);
                many++;
            }
            return many == 0 ? Bits.NAN : Bits.ofDouble(sum / (double) many);
        }

        int countEmpty(int ear, int way, int tones) {
            int empty = 0;
            for (int t = 0; t < TONES; t++) {
                if (((tones >>> t) & 1) == 1 && Bits.isNan(bitsAt(ear, way, t))) empty++;
            }
            return empty;
        }

        /** Ranks are counted, so nothing is sorted or made. */
        int toneOfRank(int ear, int way, int k) {
            for (int t = 0; t < TONES; t++) {
                int rank = 0;
                for (int u = 0; u < TONES; u++) {
                    if (precedes(ear, way, u, t)) rank++;
                }
                if (rank == k) return t;
            }
            return NOTHING;
        }

        private boolean precedes(int ear, int way, int t, int u) {
            long one = bitsAt(ear, way, t);
            long other = bitsAt(ear, way, u);
            boolean oneEmpty = Bits.isNan(one);
            if (oneEmpty != Bits.isNan(other)) return !oneEmpty;
            int order = oneEmpty ? 0 : Bits.sizeOrder(one, other);
            return order < 0 || (order == 0 && t < u);
        }

        long digestFrom(long h) {
            long mixed = h;
            for (int i = 0; i < values.length; i++) mixed = 31L * mixed + values[i];
            return mixed;
        }
    }

    /** Doubles and their bits, by arithmetic alone: the library's own turning is not to be had. */
    private static final class Bits {
        private static final long NAN = 0x7ff8000000000000L;
        private static final long ENDLESS_BITS = 0x7ff0000000000000L;
        private static final long THOUSAND_BITS = 0x408f400000000000L;
        private static final long SIGN = 0x8000000000000000L;
        private static final long HIDDEN_BIT = 1L << 52;
        /** The exponent, as bits hold it, of a number whose last bit is worth 1. */
        private static final int UNIT_POWER = 1075;

        static boolean isNan(long bits) {
            return (bits & ~SIGN) > ENDLESS_BITS;
        }

        static boolean isWithinThousand(long bits) {
            return (bits & ~SIGN) <= THOUSAND_BITS;
        }

        /** Bits of like sign rise with what they mean; both zeros become 0 here. */
        static int sizeOrder(long one, long other) {
            return Long.compare(one < 0 ? SIGN - one : one, other < 0 ? SIGN - other : other);
        }

        /** Of endless ones, too; all others here are far below 2 to the 53rd, so they only grow. */
        static long ofDouble(double x) {
            // only a quotient tells the two zeros apart
            if (x == 0.0) return 1.0 / x < 0.0 ? SIGN : 0L;
            long sign = x < 0.0 ? SIGN : 0L;
            double size = x < 0.0 ? 0.0 - x : x;
            if (size > 1.7976931348623157e308) return sign | ENDLESS_BITS;
            int power = UNIT_POWER;
            for (; size < 1048576.0 && power > 32; power -= 32) size = size * 4294967296.0;
            for (; size < 4503599627370496.0 && power > 1; power--) size = size * 2.0;
            // the hidden bit, where there is one, makes up for the 1 that is taken away
            return sign | (((long) (power - 1) << 52) + (long) size);
        }

        /** Of a chart's values alone, so it only shrinks; each halving is exact, as the last one is. */
        static double toDouble(long bits) {
            int power = (int) (bits >>> 52) & 0x7ff;
            long fraction = bits & (HIDDEN_BIT - 1L);
            double size = (double) (power == 0 ? fraction : fraction | HIDDEN_BIT);
            if (power == 0) power = 1;
            for (; power <= UNIT_POWER - 32; power += 32) size = size / 4294967296.0;
            for (; power < UNIT_POWER; power++) size = size / 2.0;
            // by a product, since 0.0 less 0.0 would lose the sign
            return bits < 0L ? size * -1.0 : size;
        }
    }
}
