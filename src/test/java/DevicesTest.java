/** Promises 1 to 8. */
public final class DevicesTest {
    private static final int NOTHING = -1000, FULL = -1002;
    private static final Check c = new Check("DevicesTest");

    public static void main(String[] args) {
        promise1NewObject();
        promise2Device();
        promise3Plug();
        promise4Row();
        promise5Calibrate();
        promise6Offset();
        promise7DriveByKind();
        promise7Findings();
        promise7Pairs();
        promise7Loud();
        promise8KindOf();
        c.end();
    }

    private static void promise1NewObject() {
        HearingRoom x = new HearingRoom();
        for (int what = 0; what < 4; what++) c.due("count(" + what + ")", x.count(what), 0);
        for (int what = 0; what < 3; what++) c.due("silent(" + what + ")", x.silent(what), 0);
        for (int f = 1; f <= 9; f++) c.due("findings(" + f + ")", x.findings(f), 0);
        c.due("finding()", x.finding(), 0);
        c.due("status()", x.status(), 0);
        c.due("trace(0)", x.trace(0), NOTHING);
        c.due("digest()", x.digest(), 17);
        long[] plateau = {0, NOTHING, 0, 0, 0};
        for (int what = 0; what < 5; what++) c.due("plateauOf(" + what + ")", x.plateauOf(what), plateau[what]);
        c.dueBad(x, "plug(0, true)", x.plug(0, true));
        c.dueBad(x, "script(0, 0, 1)", x.script(0, 0, 1));
        c.dueBad(x, "step(0)", x.step(0));
        c.dueBadBits(x, "at(0, 0, 0, 0)", x.at(0, 0, 0, 0));
    }

    private static void promise2Device() {
        HearingRoom x = new HearingRoom();
        c.dueBad(x, "device(-1)", x.device(-1, 0, 0));
        c.dueBad(x, "device(5)", x.device(5, 0, 0));
        c.dueBad(x, "device(4, 0, 0) without elder ones", x.device(4, 0, 0));
        c.due("device(0, -7, 99)", x.device(0, -7, 99), 0);
        c.due("status()", x.status(), 0);
        c.dueBad(x, "device(4, 0, 1)", x.device(4, 0, 1));
        c.dueBad(x, "device(4, 1, 0)", x.device(4, 1, 0));
        c.dueBad(x, "device(4, -1, 0)", x.device(4, -1, 0));
        c.due("device(4, 0, 0)", x.device(4, 0, 0), 1);
        c.dueBad(x, "device(4, 1, 0) of a pair", x.device(4, 1, 0));
        c.dueBad(x, "device(4, 0, 1) of a pair", x.device(4, 0, 1));
        for (int i = 2; i < 24; i++) c.due("device " + i, x.device(i % 4, 0, 0), i);
        c.dueRefused(x, "device 24", x.device(0, 0, 0), FULL);
        c.dueRefused(x, "pair 24", x.device(4, 0, 0), FULL);
        c.dueBad(x, "BAD ahead of FULL", x.device(4, 1, 0));
        c.dueBad(x, "BAD kind ahead of FULL", x.device(5, 0, 0));
        c.due("count(0)", x.count(0), 24);
    }

    private static void promise3Plug() {
        HearingRoom x = new HearingRoom();
        x.device(0, 0, 0);
        c.due("plug off, was off", x.plug(0, false), 0);
        c.due("plug on", x.plug(0, true), 1);
        c.due("plug on again", x.plug(0, true), 0);
        c.due("kindOf(0, 1)", x.kindOf(0, 1), 1);
        c.due("plug off", x.plug(0, false), 1);
        c.due("kindOf(0, 1)", x.kindOf(0, 1), 0);
        c.dueBad(x, "plug(1)", x.plug(1, true));
        c.dueBad(x, "plug(-1)", x.plug(-1, true));
        c.due("plug of a pair", x.plug(x.device(4, 0, 0), true), 1);
        c.due("its one is as it was", x.kindOf(0, 1), 0);
    }

    private static void promise4Row() {
        HearingRoom x = new HearingRoom();
        x.device(0, 0, 0);
        x.device(4, 0, 0);
        c.due("no row at first", x.kindOf(0, 2), NOTHING);
        c.due("row(0, 24)", x.row(0, 24), 1);
        c.due("kindOf(0, 2)", x.kindOf(0, 2), 24);
        x.calibrate(0, 5, 9, 1);
        x.calibrate(0, 6, 0, 0);
        c.dueBad(x, "row(0, 25)", x.row(0, 25));
        c.dueBad(x, "row(0, -2)", x.row(0, -2));
        c.dueBad(x, "row(2, 3)", x.row(2, 3));
        c.dueBad(x, "row(-1, 3)", x.row(-1, 3));
        c.dueNumber("the row stayed", x.offset(0, 5), 9.0);
        x.calibrate(0, 0, 4, 1);
        c.due("a new row", x.row(0, 7), 1);
        c.dueNumber("is of 0.0 from its first place on", x.offset(0, 0), 0.0);
        c.dueNumber("is of 0.0", x.offset(0, 5), 0.0);
        c.dueNumber("is of 0.0 where there was NAN", x.offset(0, 6), 0.0);
        c.due("row(0, 0)", x.row(0, 0), 1);
        c.due("kindOf(0, 2)", x.kindOf(0, 2), 0);
        c.dueFindingBits(x, "offset(0, 0) of an empty row", x.offset(0, 0), 3);
        c.due("row(0, -1)", x.row(0, -1), 1);
        c.due("kindOf(0, 2)", x.kindOf(0, 2), NOTHING);
        c.dueFinding(x, "row of a pair", x.row(1, 3), 7);
        c.dueFinding(x, "no row of a pair", x.row(1, -1), 7);
        c.dueBad(x, "row(1, 25): BAD ahead of UNFIT", x.row(1, 25));
        c.due("finding() behind BAD", x.finding(), 0);
    }

    private static void promise5Calibrate() {
        HearingRoom x = new HearingRoom();
        x.device(0, 0, 0);
        x.device(4, 0, 0);
        c.dueFinding(x, "LACKING", x.calibrate(0, 0, 1, 1), 2);
        x.row(0, 3);
        c.dueFinding(x, "SHORT", x.calibrate(0, 3, 1, 1), 3);
        c.dueFinding(x, "UNFIT", x.calibrate(1, 0, 1, 1), 7);
        c.dueBad(x, "calibrate tone 24", x.calibrate(0, 24, 1, 1));
        c.dueBad(x, "calibrate tone -1", x.calibrate(0, -1, 1, 1));
        c.dueBad(x, "calibrate pair, tone 24", x.calibrate(1, 24, 1, 1));
        c.dueBad(x, "calibrate(2)", x.calibrate(2, 0, 1, 1));
        c.due("finding()", x.finding(), 0);
        int[][] pairs = {{7, 2}, {1, 3}, {-1, 3}, {0, 5}, {0, -5}, {5, 0}, {-5, 0}, {16777217, 1},
            {Integer.MAX_VALUE, 1}, {Integer.MIN_VALUE, 1}, {1, Integer.MIN_VALUE}, {1, Integer.MAX_VALUE},
            {Integer.MIN_VALUE, -1}, {33554433, 33554431}};
        for (int[] p : pairs) {
            c.due("calibrate(0, 2, " + p[0] + ", " + p[1] + ")", x.calibrate(0, 2, p[0], p[1]), 1);
            c.dueNumber("offset by " + p[0] + ", " + p[1], x.offset(0, 2), (double) ((float) p[0] / (float) p[1]));
        }
        c.due("calibrate(0, 2, 0, 0)", x.calibrate(0, 2, 0, 0), 1);
        c.due("status()", x.status(), 0);
        c.due("offset by 0, 0", x.offset(0, 2), Check.NAN);
        x.calibrate(0, 2, 6, 4);
        c.dueNumber("no longer NAN", x.offset(0, 2), 1.5);
    }

    private static void promise6Offset() {
        HearingRoom x = new HearingRoom();
        x.device(3, 0, 0);
        x.device(4, 0, 0);
        c.dueFindingBits(x, "LACKING", x.offset(0, 0), 2);
        x.row(0, 2);
        x.calibrate(0, 1, 0, 0);
        c.dueNumber("offset(0, 0)", x.offset(0, 0), 0.0);
        c.due("NAN is no refusal", x.offset(0, 1), Check.NAN);
        c.due("status()", x.status(), 0);
        c.due("finding()", x.finding(), 0);
        c.dueFindingBits(x, "SHORT", x.offset(0, 2), 3);
        c.dueFindingBits(x, "UNFIT", x.offset(1, 0), 7);
        c.dueBadBits(x, "offset tone 24", x.offset(0, 24));
        c.dueBadBits(x, "offset tone -1", x.offset(1, -1));
        c.dueBadBits(x, "offset(2)", x.offset(2, 0));
        c.due("finding()", x.finding(), 0);
    }

    private static void promise7DriveByKind() {
        int[][] bodies = {{1}, {2, 1}, {3, 2, 1}, {4}};
        for (int kind = 0; kind < 4; kind++) {
            HearingRoom x = new HearingRoom();
            int d = Rooms.ready(x, kind);
            x.calibrate(d, 3, 1, 3);
            for (int level = -20; level <= 90; level++) {
                float due = (float) level + 1.0f / 3.0f;
                if (kind == 1 || kind == 2) due = due + 15.0f;
                if (kind == 2) due = due - 20.0f;
                if (kind == 3) due = due - 3.0f;
                c.dueNumber("drive of kind " + kind + " at " + level, x.drive(d, level & 1, 3, level), (double) due);
            }
            c.dueTrace(x, "drive of kind " + kind, bodies[kind]);
            c.due("nothing sounds", x.silent(0), 0);
            c.dueBadBits(x, "ear 2", x.drive(d, 2, 3, 40));
            c.dueBadBits(x, "ear -1", x.drive(d, -1, 3, 40));
            c.dueBadBits(x, "tone 24", x.drive(d, 0, 24, 40));
            c.dueBadBits(x, "tone -1", x.drive(d, 0, -1, 40));
            c.dueBadBits(x, "level 121", x.drive(d, 0, 3, 121));
            c.dueBadBits(x, "level -21", x.drive(d, 0, 3, -21));
            c.dueBadBits(x, "NOTHING", x.drive(d, 0, 3, NOTHING));
            c.dueBadBits(x, "no device", x.drive(d + 1, 0, 3, 40));
            c.dueTrace(x, "BAD leaves TRACE", bodies[kind]);
        }
    }

    private static void promise7Findings() {
        int[][] bodies = {{1}, {2, 1}, {3, 2, 1}, {4}};
        for (int kind = 0; kind < 4; kind++) {
            HearingRoom x = new HearingRoom();
            int d = x.device(kind, 0, 0);
            c.dueFindingBits(x, "UNPLUGGED ahead of LACKING", x.drive(d, 0, 0, 40), 1);
            c.dueTrace(x, "UNPLUGGED");
            x.plug(d, true);
            c.dueFindingBits(x, "LACKING", x.drive(d, 0, 0, 40), 2);
            c.dueTrace(x, "LACKING", bodies[kind]);
            x.row(d, 3);
            c.dueFindingBits(x, "SHORT", x.drive(d, 0, 3, 40), 3);
            c.dueTrace(x, "SHORT", bodies[kind]);
            x.calibrate(d, 0, 0, 0);
            c.dueFindingBits(x, "NOUGHT", x.drive(d, 0, 0, 40), 4);
            x.calibrate(d, 0, 1, 0);
            c.dueFindingBits(x, "ENDLESS", x.drive(d, 0, 0, 40), 5);
            x.calibrate(d, 0, -1, 0);
            c.dueFindingBits(x, "ENDLESS below", x.drive(d, 0, 0, 40), 5);
            x.calibrate(d, 0, Integer.MAX_VALUE, 1);
            c.dueFindingBits(x, "LOUD", x.drive(d, 0, 0, 40), 6);
            c.dueTrace(x, "LOUD", bodies[kind]);
            x.plug(d, false);
            c.dueFindingBits(x, "UNPLUGGED ahead of LOUD", x.drive(d, 0, 0, 40), 1);
            long[] often = {0, 2, 1, 1, 1, 2, 1, 0, 0, 0};
            for (int f = 1; f <= 9; f++) c.due("findings(" + f + ")", x.findings(f), often[f]);
        }
    }

    private static void promise7Pairs() {
        HearingRoom x = new HearingRoom();
        x.device(2, 0, 0);
        x.device(3, 0, 0);
        int pair = x.device(4, 0, 1);
        x.row(0, 24);
        x.calibrate(0, 4, 2, 1);
        c.dueFindingBits(x, "the pair is UNPLUGGED", x.drive(pair, 0, 4, 40), 1);
        c.dueTrace(x, "pair UNPLUGGED");
        x.plug(0, true);
        c.dueFindingBits(x, "still the pair", x.drive(pair, 0, 4, 40), 1);
        c.dueTrace(x, "pair UNPLUGGED");
        x.plug(pair, true);
        c.dueNumber("driven by its right one", x.drive(pair, 0, 4, 40), 37.0);
        c.dueTrace(x, "pair, right", 5, 3, 2, 1);
        c.dueFindingBits(x, "its left one is UNPLUGGED", x.drive(pair, 1, 4, 40), 1);
        c.dueTrace(x, "pair, left UNPLUGGED", 5);
        x.plug(1, true);
        c.dueFindingBits(x, "its left one is LACKING", x.drive(pair, 1, 4, 40), 2);
        c.dueTrace(x, "pair, left LACKING", 5, 4);
        x.row(1, 5);
        c.dueNumber("driven by its left one", x.drive(pair, 1, 4, 40), 37.0);
        c.dueTrace(x, "pair, left", 5, 4);
        c.dueFindingBits(x, "SHORT", x.drive(pair, 1, 5, 40), 3);
        int twin = x.device(4, 1, 1);
        x.plug(twin, true);
        c.dueNumber("twin, right", x.drive(twin, 0, 4, 10), 7.0);
        c.dueNumber("twin, left", x.drive(twin, 1, 4, 10), 7.0);
    }

    /** LOUD is asked of what it comes to in the end, not on the way there. */
    private static void promise7Loud() {
        int[] greatest = {110, 95, 115, 113};
        for (int kind = 0; kind < 4; kind++) {
            HearingRoom x = new HearingRoom();
            int d = Rooms.ready(x, kind);
            c.dueNumber("110.0 is not LOUD", x.drive(d, 0, 0, greatest[kind]), 110.0);
            c.due("finding()", x.finding(), 0);
            c.due("status()", x.status(), 0);
            c.dueFindingBits(x, "111.0 is", x.drive(d, 0, 0, greatest[kind] + 1), 6);
        }
        HearingRoom x = new HearingRoom();
        int d = Rooms.ready(x, 0);
        x.calibrate(d, 0, 1, 1000000);
        c.dueNumber("lost in a float", x.drive(d, 0, 0, 110), 110.0);
        x.calibrate(d, 0, 1, 100000);
        c.dueFindingBits(x, "a little above", x.drive(d, 0, 0, 110), 6);
    }

    private static void promise8KindOf() {
        HearingRoom x = new HearingRoom();
        for (int kind = 0; kind < 4; kind++) x.device(kind, 0, 0);
        int pair = x.device(4, 1, 3);
        x.plug(2, true);
        x.row(2, 11);
        int[][] due = {
            {0, 0, NOTHING, 0, NOTHING, NOTHING}, {1, 0, NOTHING, 1, NOTHING, NOTHING},
            {2, 1, 11, 0, NOTHING, NOTHING}, {3, 0, NOTHING, 0, NOTHING, NOTHING}, {4, 0, NOTHING, 0, 1, 3}};
        for (int d = 0; d <= pair; d++) {
            for (int what = 0; what < 6; what++) {
                c.due("kindOf(" + d + ", " + what + ")", x.kindOf(d, what), due[d][what]);
                c.due("status()", x.status(), 0);
            }
        }
        c.dueBad(x, "kindOf(0, 6)", x.kindOf(0, 6));
        c.dueBad(x, "kindOf(0, -1)", x.kindOf(0, -1));
        c.dueBad(x, "kindOf(5, 0)", x.kindOf(5, 0));
        c.dueBad(x, "kindOf(-1, 0)", x.kindOf(-1, 0));
    }
}
