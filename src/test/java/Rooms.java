/** Rooms that several tests begin with. */
final class Rooms {
    private Rooms() {
    }

    /** A device of the kind, plugged in, with a whole row of 0.0. */
    static int ready(HearingRoom x, int kind) {
        int d = x.device(kind, 0, 0);
        x.plug(d, true);
        x.row(d, 24);
        return d;
    }

    /** A listener by script, told the answers in words of '1' and '0'. */
    static int reciter(HearingRoom x, String answers) {
        int l = x.listener(0);
        tell(x, l, answers);
        return l;
    }

    static void tell(HearingRoom x, int listener, String answers) {
        for (int i = 0; i < answers.length(); i++) x.script(listener, answers.charAt(i) - '0', 1);
    }

    /** A test of a ready phone, whose listener recites. */
    static int recited(HearingRoom x, String answers) {
        int d = ready(x, 0);
        return x.test(d, reciter(x, answers), 0, 2);
    }

    static long bits(double v) {
        return Double.doubleToRawLongBits(v);
    }

    /**
     * Devices 0 PHONE, 1 BONE with a short row, 2 INSERT neither plugged in nor with a row, 3 FIELD, 4 PAIR of 1
     * and 3; listeners 0 by SCRIPT, 1 by LIMENS; tests 0 ENDED by TURNS, 1 going on, 2 not begun, 3 ENDED by MOST;
     * three charts with VALUES, MARKED ones among them. The latest finding is 8, TRACE is 5, 2, 1.
     */
    static HearingRoom busy() {
        HearingRoom x = new HearingRoom();
        busyDevices(x);
        x.listener(0);
        x.script(0, 0x2d5a6b35, 31);
        x.listener(1);
        x.limen(1, 0, 5, 35);
        x.limen(1, 1, 5, 10);
        x.limen(1, 1, 0, 20);
        x.seed(1, 7, 4);
        busyTests(x);
        busyCharts(x);
        x.drive(4, 0, 5, 30);
        x.tone(0, 99);
        return x;
    }

    private static void busyDevices(HearingRoom x) {
        ready(x, 0);
        x.calibrate(0, 1, 7, 2);
        x.calibrate(0, 2, 0, 0);
        x.calibrate(0, 3, 1, 0);
        x.device(1, 0, 0);
        x.plug(1, true);
        x.row(1, 6);
        x.calibrate(1, 5, -4, 3);
        x.device(2, 0, 0);
        ready(x, 3);
        x.device(4, 1, 3);
        x.plug(4, true);
    }

    private static void busyTests(HearingRoom x) {
        x.test(0, 0, 0, 5);
        x.rule(0, 5, 2);
        x.rule(0, 4, 2);
        x.rule(0, 9, 3);
        x.run(0, 200);
        x.test(0, 1, 0, 5);
        x.rule(1, 9, 3);
        x.rule(1, 4, 20);
        x.noise(1, 20);
        x.run(1, 4);
        x.test(4, 1, 1, 0);
        x.rule(2, 3, 4);
        x.rule(2, 0, 35);
        x.noise(2, 25);
        x.test(0, 0, 1, 4);
        x.rule(3, 6, 1);
        x.step(3);
        x.plateau(2, 0, 10, 4, 2, 60);
    }

    private static void busyCharts(HearingRoom x) {
        for (int i = 0; i < 3; i++) x.chart();
        x.put(0, 0, 0, 1, bits(10.0));
        x.put(0, 0, 0, 9, bits(30.5));
        x.between(0, 0, 0, 3);
        x.put(0, 1, 1, 0, bits(-0.0));
        x.put(0, 0, 1, 1, bits(-3.25));
        x.put(1, 0, 0, 1, bits(12.5));
        x.enter(0, 0);
    }

    /** As many devices, listeners, tests, charts and answers of listener 0 as there may be. */
    static HearingRoom full() {
        HearingRoom x = new HearingRoom();
        ready(x, 0);
        for (int i = 1; i < 24; i++) x.device(i % 4, 0, 0);
        for (int i = 0; i < 40; i++) x.listener(i % 2);
        for (int i = 0; i < 60; i++) x.test(0, 0, i % 2, i % 24);
        for (int i = 0; i < 20; i++) x.chart();
        for (int i = 0; i < 6; i++) x.script(0, 0x55555555, 31);
        x.script(0, 0x55555555, 14);
        x.run(0, 200);
        x.run(1, 3);
        x.put(19, 1, 1, 23, bits(1000.0));
        return x;
    }

    /** One less of each than full, so that each may come once more. */
    static HearingRoom almostFull() {
        HearingRoom x = new HearingRoom();
        ready(x, 0);
        for (int i = 1; i < 23; i++) x.device(i % 4, 0, 0);
        for (int i = 0; i < 39; i++) x.listener(i % 2);
        for (int i = 0; i < 59; i++) x.test(0, 0, i % 2, i % 24);
        for (int i = 0; i < 19; i++) x.chart();
        for (int i = 0; i < 6; i++) x.script(0, 0x55555555, 31);
        x.script(0, 0x55555555, 13);
        return x;
    }
}
