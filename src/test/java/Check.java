/** Counts answers that are not as due, and ends the program with 1 if there was one. */
final class Check {
    static final long NAN = 0x7ff8000000000000L;
    static final int NOTHING = -1000, BAD = -1001, FULL = -1002, STATE = -1003;

    private final String name;
    private int asked;
    private int wrong;

    Check(String name) {
        this.name = name;
    }

    void due(String call, long got, long want) {
        asked++;
        if (got != want) {
            wrong++;
            if (wrong <= 40) System.out.println(name + ": " + call + " answered " + got + ", due is " + want);
        }
    }

    void dueNumber(String call, long gotBits, double want) {
        due(call, gotBits, Double.doubleToRawLongBits(want));
    }

    void dueBad(HearingRoom x, String call, long got) {
        due(call, got, BAD);
        due("status() behind " + call, x.status(), BAD);
    }

    void dueBadBits(HearingRoom x, String call, long got) {
        due(call, got, NAN);
        due("status() behind " + call, x.status(), BAD);
    }

    void dueRefused(HearingRoom x, String call, long got, int why) {
        due(call, got, why);
        due("status() behind " + call, x.status(), why);
    }

    void dueFinding(HearingRoom x, String call, long got, int finding) {
        due(call, got, -100 - finding);
        due("status() behind " + call, x.status(), -100 - finding);
        due("finding() behind " + call, x.finding(), finding);
    }

    void dueFindingBits(HearingRoom x, String call, long got, int finding) {
        due(call, got, NAN);
        due("status() behind " + call, x.status(), -100 - finding);
        due("finding() behind " + call, x.finding(), finding);
    }

    void dueTrace(HearingRoom x, String call, int... bodies) {
        for (int i = 0; i < bodies.length; i++) due("trace(" + i + ") behind " + call, x.trace(i), bodies[i]);
        due("trace(" + bodies.length + ") behind " + call, x.trace(bodies.length), NOTHING);
    }

    void end() {
        System.out.println(name + ": " + asked + " asked, " + wrong + " wrong");
        if (wrong != 0) System.exit(1);
    }
}
