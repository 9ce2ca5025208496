/**
 * Boundary cases that the document names of devices (2 DEVICES, promises 1 to 8), a sentence at a time; each
 * comment is the sentence.
 */
public final class DeviceEdgesTest {
    private static final int NOTHING = -1000, BAD = -1001, FULL = -1002;
    private static final Check c = new Check("DeviceEdgesTest");
    private static final Edges busy = new Edges(c, Rooms::busy);
    private static final Edges full = new Edges(c, Rooms::full);
    private static final Edges almost = new Edges(c, Rooms::almostFull);
    private static final int[][] BODIES = {{1}, {2, 1}, {3, 2, 1}, {4}};

    public static void main(String[] args) {
        atMost24();
        kinds();
        pairsOfElderOnes();
        notPluggedAtFirst();
        plugTellsChanges();
        rowsOf0To24();
        rowOfAPair();
        newRowIsOfZeros();
        calibrateFindings();
        topByBottom();
        offsetFindings();
        driveArguments();
        oneAfterTheOtherAsFloats();
        above110IsLoud();
        severalFindings();
        findingsOfAPair();
        findingsChangeNothing();
        masking();
        waysAndWhatElseIsTold();
        c.end();
    }

    /** 24 at most, numbered from 0 on. .. FULL. */
    private static void atMost24() {
        HearingRoom x = new HearingRoom();
        for (int i = 0; i < 24; i++) c.due("number " + i, x.device(i % 4, 0, 0), i);
        almost.letBy("device(0, 0, 0)", 23, r -> r.device(0, 0, 0));
        almost.letBy("device(4, 22, 22)", 23, r -> r.device(4, 22, 22));
        full.refused("device(0, 0, 0)", FULL, r -> r.device(0, 0, 0));
        full.refused("device(4, 0, 0)", FULL, r -> r.device(4, 0, 0));
        full.refused("device(5, 0, 0)", BAD, r -> r.device(5, 0, 0));
        full.refused("device(-1, 0, 0)", BAD, r -> r.device(-1, 0, 0));
        full.refused("device(4, 24, 0)", BAD, r -> r.device(4, 24, 0));
        full.refused("device(4, 0, 24)", BAD, r -> r.device(4, 0, 24));
    }

    /** KINDS: 0 PHONE, 1 BONE, 2 INSERT, 3 FIELD, 4 PAIR. */
    private static void kinds() {
        busy.range("device(kind, 0, 0)", 0, 4, (x, v) -> x.device(v, 0, 0));
        for (int kind = 0; kind < 4; kind++) {
            int k = kind;
            busy.letBy("device(" + k + ", -1, 99)", 5, x -> x.device(k, -1, 99));
            busy.letBy("device(" + k + ") of far ones", 5, x -> x.device(k, Integer.MIN_VALUE, Integer.MAX_VALUE));
            busy.letBy("device(" + k + ", 4, 4)", 5, x -> x.device(k, 4, 4));
        }
    }

    /** PAIR (of two elder DEVICES, perhaps the same, that are no PAIRS: its RIGHT, its LEFT one). */
    private static void pairsOfElderOnes() {
        // device 4 is a PAIR, and 5 would be the new one itself
        busy.range("device(4, a, 0)", 0, 3, (x, v) -> x.device(4, v, 0));
        busy.range("device(4, 0, b)", 0, 3, (x, v) -> x.device(4, 0, v));
        busy.range("device(4, a, a)", 0, 3, (x, v) -> x.device(4, v, v));
        busy.refused("device(4, 5, 0) of itself", BAD, x -> x.device(4, 5, 0));
        busy.refused("device(4, 0, 5) of itself", BAD, x -> x.device(4, 0, 5));
        Edges empty = new Edges(c, HearingRoom::new);
        empty.refused("device(4, 0, 0) without any", BAD, x -> x.device(4, 0, 0));
        busy.letBy("kindOf(5, 4)", 2, x -> x.kindOf(x.device(4, 2, 3), 4));
        busy.letBy("kindOf(5, 5)", 3, x -> x.kindOf(x.device(4, 2, 3), 5));
    }

    /** Each is PLUGGED IN, or not (not at first). .. a ROW of OFFSETS .. or none (at first). */
    private static void notPluggedAtFirst() {
        for (int kind = 0; kind <= 4; kind++) {
            HearingRoom x = Rooms.busy();
            int d = x.device(kind, 0, 0);
            c.due("kindOf(5, 1) of kind " + kind, x.kindOf(d, 1), 0);
            c.due("kindOf(5, 2) of kind " + kind, x.kindOf(d, 2), NOTHING);
        }
    }

    /** 1, if it was not so, else 0. */
    private static void plugTellsChanges() {
        busy.range("plug(device, true)", 0, 4, (x, v) -> x.plug(v, true));
        busy.range("plug(device, false)", 0, 4, (x, v) -> x.plug(v, false));
        busy.letBy("plug(0, true)", 0, x -> x.plug(0, true));
        busy.letBy("plug(0, false)", 1, x -> x.plug(0, false));
        busy.letBy("plug(2, true)", 1, x -> x.plug(2, true));
        busy.letBy("plug(2, false)", 0, x -> x.plug(2, false));
        busy.letBy("plug(4, false)", 1, x -> x.plug(4, false));
        Edges empty = new Edges(c, HearingRoom::new);
        empty.refused("plug(0, true) without any", BAD, x -> x.plug(0, true));
    }

    /** A DEVICE gets a new ROW of n OFFSETS 0.0 (0 .. 24), or none (-1): 1. BAD .. */
    private static void rowsOf0To24() {
        busy.range("row(0, n)", -1, 24, (x, v) -> x.row(0, v));
        busy.letBy("row(3, 7)", 1, x -> x.row(3, 7));
        busy.outside("row(device, 7)", 0, 4, (x, v) -> x.row(v, 7));
        busy.refused("row(5, -1)", BAD, x -> x.row(5, -1));
        for (int n = 0; n <= 24; n++) {
            HearingRoom x = new HearingRoom();
            x.device(n % 4, 0, 0);
            c.due("row(0, " + n + ")", x.row(0, n), 1);
            c.due("kindOf(0, 2)", x.kindOf(0, 2), n);
            if (n > 0) c.dueNumber("its last place", x.offset(0, n - 1), 0.0);
            if (n > 0) c.due("its last place is set", x.calibrate(0, n - 1, 1, 2), 1);
            if (n < 24) c.dueFindingBits(x, "behind its last place", x.offset(0, n), 3);
            if (n < 24) c.dueFinding(x, "nor is that set", x.calibrate(0, n, 1, 2), 3);
            c.due("row(0, -1)", x.row(0, -1), 1);
            c.due("kindOf(0, 2) then", x.kindOf(0, 2), NOTHING);
        }
    }

    /** UNFIT: a PAIR. */
    private static void rowOfAPair() {
        busy.found("row(4, 0)", 7, 0, x -> x.row(4, 0));
        busy.found("row(4, 24)", 7, 0, x -> x.row(4, 24));
        busy.found("row(4, -1)", 7, 0, x -> x.row(4, -1));
        busy.refused("row(4, 25)", BAD, x -> x.row(4, 25));
        busy.refused("row(4, -2)", BAD, x -> x.row(4, -2));
    }

    /** A DEVICE gets a new ROW .. OFFSETS 0.0. */
    private static void newRowIsOfZeros() {
        HearingRoom x = Rooms.busy();
        x.row(0, 24);
        for (int tone = 0; tone < 24; tone++) c.dueNumber("offset " + tone, x.offset(0, tone), 0.0);
        x.calibrate(0, 0, 1, 1);
        x.calibrate(0, 23, 0, 0);
        x.row(0, 1);
        c.dueNumber("a shorter row", x.offset(0, 0), 0.0);
        x.row(0, 24);
        for (int tone = 0; tone < 24; tone++) c.dueNumber("again " + tone, x.offset(0, tone), 0.0);
        c.dueNumber("another device's row stays", x.offset(1, 5), (double) (-4.0f / 3.0f));
    }

    /** BAD; UNFIT: a PAIR; LACKING; SHORT. */
    private static void calibrateFindings() {
        busy.range("calibrate(0, tone, 1, 1)", 0, 23, (x, v) -> x.calibrate(0, v, 1, 1));
        busy.outside("calibrate(device, 0, 1, 1)", 0, 4, (x, v) -> x.calibrate(v, 0, 1, 1));
        busy.letBy("calibrate(1, 5, 1, 1)", 1, x -> x.calibrate(1, 5, 1, 1));
        busy.found("calibrate(1, 6, 1, 1)", 3, 0, x -> x.calibrate(1, 6, 1, 1));
        busy.found("calibrate(1, 23, 1, 1)", 3, 0, x -> x.calibrate(1, 23, 1, 1));
        busy.found("calibrate(2, 0, 1, 1)", 2, 0, x -> x.calibrate(2, 0, 1, 1));
        busy.found("calibrate(4, 0, 1, 1)", 7, 0, x -> x.calibrate(4, 0, 1, 1));
        busy.refused("calibrate(1, 24, 1, 1)", BAD, x -> x.calibrate(1, 24, 1, 1));
        busy.refused("calibrate(2, 24, 1, 1)", BAD, x -> x.calibrate(2, 24, 1, 1));
        busy.refused("calibrate(4, -1, 1, 1)", BAD, x -> x.calibrate(4, -1, 1, 1));
    }

    /** The OFFSET of a TONE is top by bottom, both as floats; of 0 by 0 NAN. */
    private static void topByBottom() {
        dueOffset(0, 1, 0.0);
        dueOffset(0, -1, -0.0);
        dueOffset(1, 0, Double.POSITIVE_INFINITY);
        dueOffset(-1, 0, Double.NEGATIVE_INFINITY);
        dueOffset(Integer.MIN_VALUE, 0, Double.NEGATIVE_INFINITY);
        dueOffset(Integer.MIN_VALUE, -1, 2147483648.0);
        dueOffset(Integer.MAX_VALUE, 1, 2147483648.0);
        dueOffset(Integer.MIN_VALUE, Integer.MAX_VALUE, -1.0);
        dueOffset(0, Integer.MIN_VALUE, -0.0);
        // not as whole numbers, nor as doubles: 16777217 is 16777216 as a float
        dueOffset(7, 2, 3.5);
        dueOffset(1, 3, (double) (1.0f / 3.0f));
        dueOffset(16777217, 1, 16777216.0);
        dueOffset(100000001, 100000003, 1.0);
        HearingRoom x = Rooms.busy();
        c.due("calibrate(0, 0, 0, 0)", x.calibrate(0, 0, 0, 0), 1);
        c.due("offset(0, 0)", x.offset(0, 0), Check.NAN);
        c.due("status()", x.status(), 0);
        c.dueNumber("the place behind it", x.offset(0, 1), 3.5);
        c.due("calibrate(0, 9, 5, 2) beside a NAN", x.calibrate(0, 9, 5, 2), 1);
        c.dueNumber("offset(0, 9)", x.offset(0, 9), 2.5);
        c.due("offset(0, 0) is still NAN", x.offset(0, 0), Check.NAN);
        c.due("calibrate(0, 0, 0, 1)", x.calibrate(0, 0, 0, 1), 1);
        c.dueNumber("offset(0, 0) again", x.offset(0, 0), 0.0);
        c.due("offset(0, 2) is still NAN", x.offset(0, 2), Check.NAN);
    }

    private static void dueOffset(int top, int bottom, double due) {
        HearingRoom x = Rooms.busy();
        c.due("calibrate(0, 23, " + top + ", " + bottom + ")", x.calibrate(0, 23, top, bottom), 1);
        c.dueNumber("offset of " + top + " by " + bottom, x.offset(0, 23), due);
        c.due("status()", x.status(), 0);
    }

    /** BITS of the OFFSET of a TONE. BAD; UNFIT; LACKING; SHORT. */
    private static void offsetFindings() {
        busy.range("offset(0, tone)", 0, 23, (x, v) -> x.offset(0, v));
        busy.outside("offset(device, 0)", 0, 4, (x, v) -> x.offset(v, 0));
        busy.letBy("offset(1, 5)", Rooms.bits((double) (-4.0f / 3.0f)), x -> x.offset(1, 5));
        busy.letBy("offset(0, 2)", Check.NAN, x -> x.offset(0, 2));
        busy.found("offset(1, 6)", 3, 0, x -> x.offset(1, 6));
        busy.found("offset(2, 0)", 2, 0, x -> x.offset(2, 0));
        busy.found("offset(4, 0)", 7, 0, x -> x.offset(4, 0));
        busy.refused("offset(2, 24)", BAD, x -> x.offset(2, 24));
        busy.refused("offset(4, 24)", BAD, x -> x.offset(4, 24));
        busy.refused("offset(1, -1)", BAD, x -> x.offset(1, -1));
    }

    /** EARS 0 right, 1 left; TONES 0 .. 23; LEVELS are whole numbers -20 .. 120. */
    private static void driveArguments() {
        busy.range("drive(3, ear, 0, 40)", 0, 1, (x, v) -> x.drive(3, v, 0, 40));
        busy.range("drive(3, 0, tone, 40)", 0, 23, (x, v) -> x.drive(3, 0, v, 40));
        busy.range("drive(device, 1, 5, 40)", 0, 4, (x, v) -> x.drive(v, 1, 5, 40));
        busy.outside("drive(0, 0, 0, level)", -20, 120, (x, v) -> x.drive(0, 0, 0, v));
        busy.letBy("drive(0, 0, 0, -20)", Rooms.bits(-20.0), x -> x.drive(0, 0, 0, -20));
        busy.found("drive(0, 0, 0, 120)", 6, 0, x -> x.drive(0, 0, 0, 120));
        HearingRoom x = Rooms.busy();
        x.calibrate(0, 0, -10, 1);
        c.dueNumber("drive(0, 0, 0, 120) with -10.0", x.drive(0, 0, 0, 120), 110.0);
        busy.refused("drive(0, 0, 0, NOTHING)", BAD, r -> r.drive(0, 0, 0, NOTHING));
        busy.refused("drive(2, 2, 0, 40): BAD ahead of UNPLUGGED", BAD, r -> r.drive(2, 2, 0, 40));
        HearingRoom y = Rooms.busy();
        int begun = y.silent(0);
        y.drive(0, 0, 0, 40);
        y.drive(0, 0, 0, 120);
        c.due("silent(0): nothing sounds", y.silent(0), begun);
        c.due("silent(1): nothing sounds", y.silent(1), begun);
    }

    /** D is the LEVEL and the OFFSET; .. each of these as floats, one after the other. */
    private static void oneAfterTheOtherAsFloats() {
        int[][] offsets = {{-16777216, 1}, {-16777215, 1}, {-33554432, 1}, {1, 3}, {-1, 3}, {1, 1000000}, {-100, 7}};
        int[] levels = {1, 0, -1, 3, 40, -20};
        int apart = 0;
        for (int[] o : offsets) {
            for (int level : levels) {
                float offset = (float) o[0] / (float) o[1];
                float phone = (float) level + offset;
                float bone = phone + 15.0f;
                float insert = bone - 20.0f;
                float[] due = {phone, bone, insert, phone - 3.0f};
                if (insert != phone - 5.0f || (double) bone != level + (double) offset + 15.0) apart++;
                for (int kind = 0; kind < 4; kind++) {
                    HearingRoom x = new HearingRoom();
                    int d = Rooms.ready(x, kind);
                    x.calibrate(d, 0, o[0], o[1]);
                    c.dueNumber("kind " + kind + " at " + level + " by " + offset, x.drive(d, 0, 0, level), (double) due[kind]);
                }
            }
        }
        c.due("other orders would tell in some", apart > 5 ? 1 : 0, 1);
    }

    /** D above 110.0 is LOUD. */
    private static void above110IsLoud() {
        int[] at110 = {110, 95, 115, 113};
        // an INSERT goes by 130.0, where floats are twice as far apart
        int[] parts = {131072, 131072, 65536, 131072};
        for (int kind = 0; kind < 4; kind++) {
            HearingRoom x = new HearingRoom();
            int d = Rooms.ready(x, kind);
            c.dueNumber("110.0 of kind " + kind, x.drive(d, 1, 23, at110[kind]), 110.0);
            c.due("status()", x.status(), 0);
            // the next one above 110.0, and half the way there, which is 110.0 again
            x.calibrate(d, 23, 1, parts[kind]);
            c.dueFindingBits(x, "the next float of kind " + kind, x.drive(d, 1, 23, at110[kind]), 6);
            c.dueTrace(x, "LOUD", BODIES[kind]);
            x.calibrate(d, 23, 1, 2 * parts[kind]);
            c.dueNumber("half of that of kind " + kind, x.drive(d, 1, 23, at110[kind]), 110.0);
            x.calibrate(d, 23, -1, parts[kind]);
            c.dueNumber("below of kind " + kind, x.drive(d, 1, 23, at110[kind]), 110.0 - 1.0 / parts[kind]);
        }
    }

    /** FINDINGS of that, of several the first one. */
    private static void severalFindings() {
        for (int kind = 0; kind < 4; kind++) {
            HearingRoom x = new HearingRoom();
            int d = x.device(kind, 0, 0);
            c.dueFindingBits(x, "UNPLUGGED and LACKING", x.drive(d, 0, 3, 120), 1);
            x.row(d, 3);
            c.dueFindingBits(x, "UNPLUGGED and SHORT", x.drive(d, 0, 3, 120), 1);
            x.row(d, 4);
            x.calibrate(d, 3, 0, 0);
            c.dueFindingBits(x, "UNPLUGGED and NOUGHT", x.drive(d, 0, 3, 120), 1);
            x.calibrate(d, 3, 1, 0);
            c.dueFindingBits(x, "UNPLUGGED, ENDLESS and LOUD", x.drive(d, 0, 3, 120), 1);
            c.dueTrace(x, "UNPLUGGED");
            x.plug(d, true);
            c.dueFindingBits(x, "ENDLESS and LOUD", x.drive(d, 0, 3, 120), 5);
            c.dueTrace(x, "ENDLESS", BODIES[kind]);
            x.calibrate(d, 3, -1, 0);
            c.dueFindingBits(x, "ENDLESS the other way", x.drive(d, 0, 3, -20), 5);
            x.calibrate(d, 3, 0, 0);
            c.dueFindingBits(x, "NOUGHT", x.drive(d, 0, 3, 120), 4);
            c.dueTrace(x, "NOUGHT", BODIES[kind]);
            x.calibrate(d, 3, Integer.MIN_VALUE, 1);
            x.drive(d, 0, 3, 120);
            c.due("a great number is not endless", x.finding(), 0);
            x.row(d, 3);
            c.dueFindingBits(x, "SHORT", x.drive(d, 0, 3, 120), 3);
            c.dueTrace(x, "SHORT", BODIES[kind]);
            x.row(d, 0);
            c.dueFindingBits(x, "SHORT of an empty row", x.drive(d, 0, 0, 120), 3);
            x.row(d, -1);
            c.dueFindingBits(x, "LACKING", x.drive(d, 0, 0, 120), 2);
            c.dueTrace(x, "LACKING", BODIES[kind]);
        }
    }

    /** 1 UNPLUGGED (of a PAIR: itself, then the one by which it is driven). */
    private static void findingsOfAPair() {
        for (int ear = 0; ear < 2; ear++) {
            HearingRoom x = new HearingRoom();
            x.device(0, 0, 0);
            x.device(0, 0, 0);
            x.device(4, 0, 1);
            x.row(ear, 1);
            x.calibrate(ear, 0, ear + 1, 1);
            c.dueFindingBits(x, "none is plugged in", x.drive(2, ear, 0, 40), 1);
            c.dueTrace(x, "the pair is not");
            x.plug(ear, true);
            c.dueFindingBits(x, "the pair is not", x.drive(2, ear, 0, 40), 1);
            c.dueTrace(x, "the pair is not");
            x.plug(2, true);
            c.dueNumber("both are, the other one need not be", x.drive(2, ear, 0, 40), 41.0 + ear);
            c.dueTrace(x, "driven", 5, 1);
            x.row(ear, 7);
            x.calibrate(ear, 6, 5, 1);
            c.dueNumber("with this tone", x.drive(2, ear, 6, -20), -15.0);
            x.plug(1 - ear, true);
            x.plug(ear, false);
            c.dueFindingBits(x, "the other one does not help", x.drive(2, ear, 0, 40), 1);
            c.dueTrace(x, "its one is not", 5);
            c.dueFindingBits(x, "the other one is LACKING", x.drive(2, 1 - ear, 0, 40), 2);
            c.dueTrace(x, "LACKING", 5, 1);
        }
    }

    /** Refusals .. change nothing but STATUS (FINDINGS also TRACE, and what was BEGUN and SILENCED). */
    private static void findingsChangeNothing() {
        busy.found("drive(2, 0, 0, 40)", 1, 0, x -> x.drive(2, 0, 0, 40));
        busy.found("drive(1, 0, 6, 40)", 3, 0, x -> x.drive(1, 0, 6, 40));
        busy.found("drive(0, 0, 2, 40)", 4, 0, x -> x.drive(0, 0, 2, 40));
        busy.found("drive(0, 0, 3, 40)", 5, 0, x -> x.drive(0, 0, 3, 40));
        busy.found("drive(4, 0, 0, 96)", 6, 0, x -> x.drive(4, 0, 0, 96));
        Edges plugged = new Edges(c, () -> {
            HearingRoom x = Rooms.busy();
            x.plug(2, true);
            return x;
        });
        plugged.found("drive(2, 0, 0, 40)", 2, 0, x -> x.drive(2, 0, 0, 40));
        HearingRoom x = Rooms.busy();
        x.drive(2, 0, 0, 40);
        c.dueTrace(x, "UNPLUGGED empties TRACE");
    }

    /** TO MASK: a FIELD is UNFIT; others are UNPLUGGED ..; a PAIR masks by the one that is not driven, likewise. */
    private static void masking() {
        for (int kind = 0; kind < 4; kind++) {
            for (int ear = 0; ear < 2; ear++) {
                HearingRoom x = new HearingRoom();
                int driven = Rooms.ready(x, 0);
                int other = x.device(kind, 0, 0);
                int pair = ear == 0 ? x.device(4, driven, other) : x.device(4, other, driven);
                int t = x.test(pair, Rooms.reciter(x, "1"), ear, 0);
                x.noise(t, 0);
                c.dueFinding(x, "the pair is UNPLUGGED", x.step(t), 1);
                c.dueTrace(x, "the pair is UNPLUGGED");
                x.plug(pair, true);
                c.dueFinding(x, "its other one", x.step(t), kind == 3 ? 7 : 1);
                c.dueTrace(x, "its other one", 11);
                x.plug(other, true);
                if (kind == 3) c.dueFinding(x, "a FIELD that is plugged in", x.step(t), 7);
                else c.due("masked, though it has no row", x.step(t), 1);
                c.dueTrace(x, "masked", kind == 3 ? new int[] {11} : new int[] {11, 10, 5, 1});
            }
        }
    }

    /** Each DEVICE TELLS its WAY: 1 BONES, 0 all others. .. what = 0 .. 5 of a PAIR its RIGHT, LEFT one (NOTHING). */
    private static void waysAndWhatElseIsTold() {
        busy.range("kindOf(0, what)", 0, 5, (x, v) -> x.kindOf(0, v));
        busy.range("kindOf(4, what)", 0, 5, (x, v) -> x.kindOf(4, v));
        busy.range("kindOf(device, 0)", 0, 4, (x, v) -> x.kindOf(v, 0));
        int[] ways = {0, 1, 0, 0, 0};
        int[] rows = {24, 6, NOTHING, 24, NOTHING};
        for (int d = 0; d <= 4; d++) {
            int of = d;
            busy.letBy("kindOf(" + d + ", 0)", d, x -> x.kindOf(of, 0));
            busy.letBy("kindOf(" + d + ", 1)", d == 2 ? 0 : 1, x -> x.kindOf(of, 1));
            busy.letBy("kindOf(" + d + ", 2)", rows[d], x -> x.kindOf(of, 2));
            busy.letBy("kindOf(" + d + ", 3)", ways[d], x -> x.kindOf(of, 3));
            busy.letBy("kindOf(" + d + ", 4)", d == 4 ? 1 : NOTHING, x -> x.kindOf(of, 4));
            busy.letBy("kindOf(" + d + ", 5)", d == 4 ? 3 : NOTHING, x -> x.kindOf(of, 5));
        }
        // a PAIR of two BONES is no BONE
        busy.letBy("kindOf(5, 3)", 0, x -> x.kindOf(x.device(4, 1, 1), 3));
    }
}
