/** Boundary cases that the document names of charts (5 CHARTS, promises 29 to 40); each comment is the sentence. */
public final class ChartEdgesTest {
    private static final int NOTHING = -1000, BAD = -1001, FULL = -1002, STATE = -1003;
    private static final Check c = new Check("ChartEdgesTest");
    private static final Edges busy = new Edges(c, Rooms::busy);
    private static final Edges full = new Edges(c, Rooms::full);
    private static final Edges almost = new Edges(c, Rooms::almostFull);

    public static void main(String[] args) {
        atMost20();
        noneAtFirst();
        enterArguments();
        enterThresholds();
        enterNone();
        enterByWay();
        putArguments();
        within1000();
        bitsOfNan();
        putTakesTheMark();
        atArguments();
        betweenArguments();
        nextTonesBelowAndAbove();
        onlyWhereThereIsNone();
        onlyOfThoseNotMarked();
        inThatOrder();
        markedArguments();
        meanOfTones();
        sumFromTheLowestOn();
        lackingTones();
        gapOfWays();
        furtherThanStep();
        compareTones();
        orderOfValues();
        eachLineForItself();
        eachLineOfEachChart();
        c.end();
    }

    private static long bits(double v) {
        return Rooms.bits(v);
    }

    private static HearingRoom charted(double... values) {
        HearingRoom x = new HearingRoom();
        x.chart();
        for (int tone = 0; tone < values.length; tone++) {
            if (!Double.isNaN(values[tone])) x.put(0, 0, 0, tone, bits(values[tone]));
        }
        return x;
    }

    /** CHARTS, 20 at most. .. FULL. */
    private static void atMost20() {
        HearingRoom x = new HearingRoom();
        for (int i = 0; i < 20; i++) c.due("number " + i, x.chart(), i);
        c.dueRefused(x, "number 20", x.chart(), FULL);
        busy.letBy("chart()", 3, r -> r.chart());
        almost.letBy("chart()", 19, r -> r.chart());
        full.refused("chart()", FULL, r -> r.chart());
    }

    /** A VALUE (a double within 1000.0, or none, NAN, at first), and whether that is MARKED. */
    private static void noneAtFirst() {
        HearingRoom x = charted();
        for (int i = 0; i < 96; i++) {
            c.due("at " + i, x.at(0, i / 48, i / 24 % 2, i % 24), Check.NAN);
            c.due("status()", x.status(), 0);
            c.due("marked " + i, x.marked(0, i / 48, i / 24 % 2, i % 24), 0);
        }
    }

    /** BAD; STATE: the TEST is not ENDED. */
    private static void enterArguments() {
        busy.range("enter(chart, 0)", 0, 2, (x, v) -> x.enter(v, 0));
        busy.outside("enter(0, test)", 0, 3, (x, v) -> x.enter(0, v));
        busy.refused("enter(0, 1) of one going on", STATE, x -> x.enter(0, 1));
        busy.refused("enter(0, 2) of one that did not begin", STATE, x -> x.enter(0, 2));
        busy.refused("enter(3, 1): BAD ahead of STATE", BAD, x -> x.enter(3, 1));
        busy.letBy("enter(1, 3)", 0, x -> x.enter(1, 3));
        HearingRoom x = charted();
        c.dueBad(x, "enter(0, 0) without tests", x.enter(0, 0));
    }

    private static int entered(HearingRoom x, int start, String answers) {
        int t = x.test(0, Rooms.reciter(x, answers), 0, 7);
        x.rule(t, 7, -20);
        x.rule(t, 8, 120);
        x.rule(t, 5, 1);
        x.rule(t, 4, 1);
        x.rule(t, 0, start);
        x.run(t, 200);
        return x.enter(0, t);
    }

    /** THE THRESHOLD of a TEST .. is the VALUE at its EAR, .. its TONE: 1. */
    private static void enterThresholds() {
        int[] thresholds = {-20, -1, 0, 1, 80, 120};
        for (int threshold : thresholds) {
            HearingRoom x = new HearingRoom();
            Rooms.ready(x, 0);
            x.chart();
            x.calibrate(0, 7, -100, 1);
            boolean down = threshold < 60;
            int start = down ? threshold + 20 : threshold - 20;
            c.due("enter", entered(x, start, down ? "10" : "01"), 1);
            c.dueNumber("its value", x.at(0, 0, 0, 7), (double) threshold);
            c.due("lacking", x.lacking(0, 0, 0, -1), 23);
        }
    }

    /** Or none, is the VALUE ..: 0 where there is none. */
    private static void enterNone() {
        String[] answers = {"11", "00", "1"};
        int[] low = {40, -10, -10};
        int[] high = {100, 40, 100};
        int[] most = {60, 60, 1};
        for (int i = 0; i < 3; i++) {
            HearingRoom x = new HearingRoom();
            x.chart();
            int t = Rooms.recited(x, answers[i]);
            x.rule(t, 7, low[i]);
            x.rule(t, 8, high[i]);
            x.rule(t, 6, most[i]);
            x.put(0, 0, 0, 2, bits(5.0));
            x.run(t, 200);
            c.due("ENDED", x.told(t, 3), i < 2 ? 2 : 3);
            c.due("enter", x.enter(0, t), 0);
            c.due("status()", x.status(), 0);
            c.due("what was there is gone", x.at(0, 0, 0, 2), Check.NAN);
            c.due("not MARKED", x.marked(0, 0, 0, 2), 0);
        }
    }

    /** Its DEVICE's WAY (of a PAIR that of the one by which it is driven), .. not MARKED. */
    private static void enterByWay() {
        for (int right = 0; right < 4; right++) {
            for (int left = 0; left < 4; left++) {
                for (int ear = 0; ear < 2; ear++) {
                    HearingRoom x = new HearingRoom();
                    Rooms.ready(x, right);
                    Rooms.ready(x, left);
                    int pair = x.device(4, 0, 1);
                    x.plug(pair, true);
                    x.chart();
                    int way = (ear == 0 ? right : left) == 1 ? 1 : 0;
                    x.put(0, ear, way, 4, bits(1.0));
                    x.put(0, ear, way, 6, bits(2.0));
                    x.between(0, ear, way, 5);
                    int t = x.test(pair, Rooms.reciter(x, "10"), ear, 5);
                    x.rule(t, 5, 1);
                    x.rule(t, 4, 1);
                    x.run(t, 2);
                    c.due("enter", x.enter(0, t), 1);
                    c.dueNumber("at its way", x.at(0, ear, way, 5), 20.0);
                    c.due("not at the other", x.at(0, ear, 1 - way, 5), Check.NAN);
                    c.due("not at the other ear", x.at(0, 1 - ear, way, 5), Check.NAN);
                    c.due("no longer MARKED", x.marked(0, ear, way, 5), 0);
                }
            }
        }
    }

    /** For each EAR, WAY, TONE. .. BAD. */
    private static void putArguments() {
        busy.range("put(chart, 0, 0, 5, 1.0)", 0, 2, (x, v) -> x.put(v, 0, 0, 5, bits(1.0)));
        busy.range("put(0, ear, 0, 5, 1.0)", 0, 1, (x, v) -> x.put(0, v, 0, 5, bits(1.0)));
        busy.range("put(0, 0, way, 5, 1.0)", 0, 1, (x, v) -> x.put(0, 0, v, 5, bits(1.0)));
        busy.range("put(0, 0, 0, tone, 1.0)", 0, 23, (x, v) -> x.put(0, 0, 0, v, bits(1.0)));
        busy.refused("put(3, 0, 0, 5, NAN)", BAD, x -> x.put(3, 0, 0, 5, Check.NAN));
        busy.refused("put(0, 0, 0, 24, NAN)", BAD, x -> x.put(0, 0, 0, 24, Check.NAN));
        full.letBy("put(19, 1, 1, 23, 1.0)", 1, x -> x.put(19, 1, 1, 23, bits(1.0)));
    }

    /** BAD: also endless, beyond 1000.0 either way. */
    private static void within1000() {
        double[] fine = {1000.0, -1000.0, Math.nextDown(1000.0), Math.nextUp(-1000.0), 0.0, -0.0, Double.MIN_VALUE,
            -Double.MIN_VALUE, Double.MIN_NORMAL, Math.nextDown(Double.MIN_NORMAL)};
        for (double v : fine) {
            busy.letBy("put(0, 0, 0, 1, " + v + ")", 1, x -> x.put(0, 0, 0, 1, bits(v)));
            HearingRoom x = Rooms.busy();
            x.put(0, 0, 0, 1, bits(v));
            c.dueNumber("at behind " + v, x.at(0, 0, 0, 1), v);
        }
        double[] wrong = {Math.nextUp(1000.0), Math.nextDown(-1000.0), 1024.0, -1024.0, Double.MAX_VALUE,
            -Double.MAX_VALUE, Double.POSITIVE_INFINITY, Double.NEGATIVE_INFINITY};
        for (double v : wrong) {
            busy.refused("put(0, 0, 0, 1, " + v + ")", BAD, x -> x.put(0, 0, 0, 1, bits(v)));
            busy.refused("put(0, 0, 0, 3, " + v + ") where one is MARKED", BAD, x -> x.put(0, 0, 0, 3, bits(v)));
        }
    }

    /** What is no number (NAN) has 0x7ff8000000000000. .. A VALUE, by BITS (NAN: none). */
    private static void bitsOfNan() {
        long[] nans = {0x7ff8000000000000L, 0x7ff0000000000001L, 0x7fffffffffffffffL, 0xfff0000000000001L,
            0xfff8000000000000L, 0xffffffffffffffffL};
        for (long n : nans) {
            HearingRoom x = charted(1.0, 2.0);
            c.due("put " + n, x.put(0, 0, 0, 0, n), 1);
            c.due("at behind " + n, x.at(0, 0, 0, 0), 0x7ff8000000000000L);
            c.due("lacking", x.lacking(0, 0, 0, 3), 1);
            long h = 17;
            for (int i = 0; i < 96; i++) h = 31 * h + (i == 1 ? bits(2.0) : 0x7ff8000000000000L);
            c.due("digest()", x.digest(), h);
        }
        busy.refused("put(0, 0, 0, 1, endless)", BAD, x -> x.put(0, 0, 0, 1, 0x7ff0000000000000L));
        busy.refused("put(0, 0, 0, 1, endless below)", BAD, x -> x.put(0, 0, 0, 1, 0xfff0000000000000L));
    }

    /** A VALUE .. not MARKED. */
    private static void putTakesTheMark() {
        HearingRoom x = Rooms.busy();
        c.due("MARKED at first", x.marked(0, 0, 0, 3), 1);
        x.put(0, 0, 0, 3, x.at(0, 0, 0, 3));
        c.due("not MARKED", x.marked(0, 0, 0, 3), 0);
        HearingRoom y = Rooms.busy();
        y.put(0, 0, 0, 3, Check.NAN);
        c.due("none is not MARKED", y.marked(0, 0, 0, 3), 0);
        c.due("it may be filled again", y.between(0, 0, 0, 3), 1);
        c.due("MARKED again", y.marked(0, 0, 0, 3), 1);
    }

    /** BITS of a VALUE. BAD. */
    private static void atArguments() {
        busy.range("at(chart, 0, 0, 1)", 0, 2, (x, v) -> x.at(v, 0, 0, 1));
        busy.range("at(0, ear, 0, 1)", 0, 1, (x, v) -> x.at(0, v, 0, 1));
        busy.range("at(0, 0, way, 1)", 0, 1, (x, v) -> x.at(0, 0, v, 1));
        busy.range("at(0, 0, 0, tone)", 0, 23, (x, v) -> x.at(0, 0, 0, v));
        busy.letBy("at(0, 1, 1, 0)", bits(-0.0), x -> x.at(0, 1, 1, 0));
        busy.letBy("at(1, 0, 0, 1)", bits(12.5), x -> x.at(1, 0, 0, 1));
        full.letBy("at(19, 1, 1, 23)", bits(1000.0), x -> x.at(19, 1, 1, 23));
        full.letBy("at(19, 1, 1, 22)", Check.NAN, x -> x.at(19, 1, 1, 22));
    }

    private static void betweenArguments() {
        busy.range("between(chart, 0, 0, 2)", 0, 2, (x, v) -> x.between(v, 0, 0, 2));
        busy.range("between(0, ear, 0, 2)", 0, 1, (x, v) -> x.between(0, v, 0, 2));
        busy.range("between(0, 0, way, 2)", 0, 1, (x, v) -> x.between(0, 0, v, 2));
        busy.range("between(0, 0, 0, tone)", 0, 23, (x, v) -> x.between(0, 0, 0, v));
    }

    private static final double NONE = Double.NaN;

    /** The next TONES below and above that have VALUES. .. NOTHING: there are not both. */
    private static void nextTonesBelowAndAbove() {
        HearingRoom x = charted(NONE, 10.0, NONE, NONE, 40.0, NONE);
        int[] answers = {NOTHING, 0, 1, 1, 0, NOTHING};
        for (int tone = 0; tone < 6; tone++) c.due("between " + tone, x.between(0, 0, 0, tone), answers[tone]);
        c.dueNumber("at 2", x.at(0, 0, 0, 2), 20.0);
        c.dueNumber("at 3", x.at(0, 0, 0, 3), 30.0);
        c.due("at 0", x.at(0, 0, 0, 0), Check.NAN);
        c.due("at 5", x.at(0, 0, 0, 5), Check.NAN);
        c.due("23", x.between(0, 0, 0, 23), NOTHING);
        HearingRoom ends = charted();
        ends.put(0, 1, 1, 0, bits(-23.0));
        ends.put(0, 1, 1, 23, bits(23.0));
        for (int tone = 1; tone < 23; tone++) {
            c.due("between the ends " + tone, ends.between(0, 1, 1, tone), 1);
            c.dueNumber("at " + tone, ends.at(0, 1, 1, tone), -23.0 + 46.0 * tone / 23.0);
        }
        c.due("nothing at the other ear", ends.lacking(0, 0, 1, -1), 24);
        c.due("nothing at the other way", ends.lacking(0, 1, 0, -1), 24);
        HearingRoom next = charted(1.0, 2.0, NONE, 8.0, 16.0);
        next.between(0, 0, 0, 2);
        c.dueNumber("the next ones, not the first", next.at(0, 0, 0, 2), 5.0);
        HearingRoom none = charted();
        c.due("an empty line", none.between(0, 0, 0, 12), NOTHING);
        c.due("status()", none.status(), 0);
        HearingRoom edges = charted(3.0);
        c.due("tone 0 with a value", edges.between(0, 0, 0, 0), 0);
        edges.put(0, 0, 0, 0, Check.NAN);
        edges.put(0, 0, 0, 1, bits(4.0));
        c.due("tone 0 has none below", edges.between(0, 0, 0, 0), NOTHING);
        edges.put(0, 0, 0, 22, bits(4.0));
        c.due("tone 23 has none above", edges.between(0, 0, 0, 23), NOTHING);
    }

    /** Where there is none. .. 0: there is a VALUE. */
    private static void onlyWhereThereIsNone() {
        HearingRoom x = charted(10.0, 99.0, 30.0);
        c.due("there is one", x.between(0, 0, 0, 1), 0);
        c.dueNumber("it stays", x.at(0, 0, 0, 1), 99.0);
        c.due("not MARKED", x.marked(0, 0, 0, 1), 0);
        x.put(0, 0, 0, 1, Check.NAN);
        c.due("now there is none", x.between(0, 0, 0, 1), 1);
        x.put(0, 0, 0, 0, bits(20.0));
        c.due("a MARKED one is one", x.between(0, 0, 0, 1), 0);
        c.dueNumber("it stays, too", x.at(0, 0, 0, 1), 20.0);
        c.due("MARKED", x.marked(0, 0, 0, 1), 1);
        HearingRoom zero = charted(10.0, -0.0, 30.0);
        c.due("-0.0 is a VALUE", zero.between(0, 0, 0, 1), 0);
    }

    /** That have VALUES not MARKED. */
    private static void onlyOfThoseNotMarked() {
        HearingRoom x = charted(0.0, NONE, NONE, NONE, 80.0);
        x.between(0, 0, 0, 2);
        x.put(0, 0, 0, 0, bits(40.0));
        x.between(0, 0, 0, 1);
        c.dueNumber("above it the MARKED one is passed over", x.at(0, 0, 0, 1), 50.0);
        x.between(0, 0, 0, 3);
        c.dueNumber("below it, too", x.at(0, 0, 0, 3), 70.0);
        HearingRoom y = charted(0.0, NONE, 20.0);
        y.between(0, 0, 0, 1);
        y.put(0, 0, 0, 0, Check.NAN);
        c.due("only a MARKED one below", y.between(0, 0, 0, 3), NOTHING);
        y.put(0, 0, 0, 0, bits(1.0));
        y.put(0, 0, 0, 2, Check.NAN);
        c.due("only a MARKED one above or below", y.between(0, 0, 0, 2), NOTHING);
    }

    /** x + (y - x) * (TONE - t) / (u - t), in that order; it is MARKED then. */
    private static void inThatOrder() {
        double[][] ends = {{0.1, 77.7}, {-0.3, 0.1}, {1000.0, -1000.0}, {1.0 / 3.0, 2.0 / 3.0}, {-0.0, -0.0},
            {Double.MIN_VALUE, 3 * Double.MIN_VALUE}, {1e-300, 1000.0}, {33.3, 33.3}};
        int apart = 0;
        for (double[] e : ends) {
            for (int u = 2; u < 24; u++) {
                HearingRoom x = charted(e[0]);
                x.put(0, 0, 0, u, bits(e[1]));
                int tone = 1 + u / 3;
                c.due("between", x.between(0, 0, 0, tone), 1);
                double due = e[0] + (e[1] - e[0]) * tone / u;
                c.dueNumber("of " + e[0] + ", " + e[1] + " at " + tone + " of " + u, x.at(0, 0, 0, tone), due);
                c.due("MARKED", x.marked(0, 0, 0, tone), 1);
                if (due != e[0] + (e[1] - e[0]) * ((double) tone / u)) apart++;
            }
        }
        c.due("another order would tell in some", apart > 5 ? 1 : 0, 1);
    }

    private static void markedArguments() {
        busy.range("marked(chart, 0, 0, 3)", 0, 2, (x, v) -> x.marked(v, 0, 0, 3));
        busy.range("marked(0, ear, 0, 3)", 0, 1, (x, v) -> x.marked(0, v, 0, 3));
        busy.range("marked(0, 0, way, 3)", 0, 1, (x, v) -> x.marked(0, 0, v, 3));
        busy.range("marked(0, 0, 0, tone)", 0, 23, (x, v) -> x.marked(0, 0, 0, v));
    }

    /** At the TONES whose bits tones has (those from 24 on are not looked at), MARKED ones, too; NAN: there is none. */
    private static void meanOfTones() {
        busy.range("mean(chart, 0, 0, 2)", 0, 2, (x, v) -> x.mean(v, 0, 0, 2));
        busy.range("mean(0, ear, 0, 2)", 0, 1, (x, v) -> x.mean(0, v, 0, 2));
        busy.range("mean(0, 0, way, 2)", 0, 1, (x, v) -> x.mean(0, 0, v, 2));
        HearingRoom x = charted();
        for (int tone = 0; tone < 24; tone++) x.put(0, 0, 0, tone, bits(tone + 0.5));
        for (int tone = 0; tone < 24; tone++) c.dueNumber("tone " + tone, x.mean(0, 0, 0, 1 << tone), tone + 0.5);
        for (int bit = 24; bit < 32; bit++) {
            c.due("bit " + bit, x.mean(0, 0, 0, 1 << bit), Check.NAN);
            c.due("status()", x.status(), 0);
            c.dueNumber("bit " + bit + " beside tone 0", x.mean(0, 0, 0, 1 << bit | 1), 0.5);
        }
        c.due("no tones", x.mean(0, 0, 0, 0), Check.NAN);
        c.dueNumber("all bits", x.mean(0, 0, 0, -1), 12.0);
        c.dueNumber("all but the sign", x.mean(0, 0, 0, Integer.MAX_VALUE), 12.0);
        c.due("the least int", x.mean(0, 0, 0, Integer.MIN_VALUE), Check.NAN);
        c.due("another way is empty", x.mean(0, 0, 1, -1), Check.NAN);
        HearingRoom y = charted(10.0, NONE, 20.0);
        c.due("only one without", y.mean(0, 0, 0, 2), Check.NAN);
        c.dueNumber("those without do not count", y.mean(0, 0, 0, 7), 15.0);
        y.between(0, 0, 0, 1);
        y.put(0, 0, 0, 0, bits(40.0));
        c.dueNumber("a MARKED one counts", y.mean(0, 0, 0, 3), 27.5);
        c.dueNumber("a MARKED one alone", y.mean(0, 0, 0, 2), 15.0);
    }

    /** Their sum, from the lowest TONE on, at first 0.0, by how many. */
    private static void sumFromTheLowestOn() {
        double[] values = {0.1, 0.2, 0.3, 1000.0, -1000.0, 0.7, 1e-17, -0.1};
        HearingRoom x = charted(values);
        int apart = 0;
        for (int tones = 1; tones < 256; tones++) {
            double up = 0.0;
            double down = 0.0;
            int many = 0;
            for (int t = 0; t < 8; t++) if ((tones >> t & 1) == 1) {
                up += values[t];
                many++;
            }
            for (int t = 7; t >= 0; t--) if ((tones >> t & 1) == 1) down += values[t];
            if (up != down) apart++;
            c.dueNumber("mean of " + tones, x.mean(0, 0, 0, tones), up / many);
        }
        c.due("from above would tell in some", apart > 5 ? 1 : 0, 1);
        c.dueNumber("at first 0.0, so no -0.0", charted(-0.0, -0.0).mean(0, 0, 0, 3), 0.0);
        HearingRoom all = charted();
        for (int tone = 0; tone < 24; tone++) all.put(0, 0, 0, tone, bits(-1000.0));
        c.dueNumber("the greatest sum", all.mean(0, 0, 0, -1), -1000.0);
    }

    /** How many of these TONES have none. BAD. */
    private static void lackingTones() {
        busy.range("lacking(chart, 0, 0, 2)", 0, 2, (x, v) -> x.lacking(v, 0, 0, 2));
        busy.range("lacking(0, ear, 0, 2)", 0, 1, (x, v) -> x.lacking(0, v, 0, 2));
        busy.range("lacking(0, 0, way, 2)", 0, 1, (x, v) -> x.lacking(0, 0, v, 2));
        HearingRoom x = charted();
        c.due("all are empty", x.lacking(0, 0, 0, -1), 24);
        c.due("no tones", x.lacking(0, 0, 0, 0), 0);
        for (int bit = 0; bit < 32; bit++) c.due("bit " + bit, x.lacking(0, 0, 0, 1 << bit), bit < 24 ? 1 : 0);
        for (int tone = 0; tone < 24; tone++) {
            x.put(0, 0, 0, tone, bits(0.0));
            c.due("less by one", x.lacking(0, 0, 0, -1), 23 - tone);
            c.due("that one", x.lacking(0, 0, 0, 1 << tone), 0);
        }
        HearingRoom y = charted(1.0, NONE, 2.0);
        y.between(0, 0, 0, 1);
        c.due("a MARKED one is there", y.lacking(0, 0, 0, 7), 0);
    }

    /** The VALUE of WAY 0 less that of WAY 1; NAN: one is none. BAD. */
    private static void gapOfWays() {
        busy.range("gap(chart, 0, 1)", 0, 2, (x, v) -> x.gap(v, 0, 1));
        busy.range("gap(0, ear, 1)", 0, 1, (x, v) -> x.gap(0, v, 1));
        busy.range("gap(0, 0, tone)", 0, 23, (x, v) -> x.gap(0, 0, v));
        busy.letBy("gap(0, 0, 1)", bits(13.25), x -> x.gap(0, 0, 1));
        busy.letBy("gap(0, 0, 9) with none of WAY 1", Check.NAN, x -> x.gap(0, 0, 9));
        busy.letBy("gap(0, 1, 0) with none of WAY 0", Check.NAN, x -> x.gap(0, 1, 0));
        busy.letBy("gap(0, 0, 20) with neither", Check.NAN, x -> x.gap(0, 0, 20));
        double[][] pairs = {{1000.0, -1000.0}, {-1000.0, 1000.0}, {0.0, 0.0}, {-0.0, 0.0}, {0.0, -0.0}, {-0.0, -0.0},
            {0.1, 0.3}, {Double.MIN_VALUE, 0.0}, {0.0, Double.MIN_VALUE}, {1000.0, Double.MIN_VALUE}};
        for (double[] p : pairs) {
            HearingRoom x = charted();
            x.put(0, 1, 0, 23, bits(p[0]));
            x.put(0, 1, 1, 23, bits(p[1]));
            c.dueNumber("gap of " + p[0] + ", " + p[1], x.gap(0, 1, 23), p[0] - p[1]);
        }
    }

    private static int changeOf(double now, double then, int step) {
        HearingRoom x = charted();
        x.chart();
        x.put(0, 0, 0, 0, bits(now));
        x.put(1, 0, 0, 0, bits(then));
        return x.change(0, 1, 0, 0, 0, step);
    }

    /** Further than step (0 .. 1000, as a double) from that of another CHART (earlier; any one). .. NOTHING: one is none. */
    private static void furtherThanStep() {
        busy.range("change(chart, 1, 0, 0, 1, 5)", 0, 2, (x, v) -> x.change(v, 1, 0, 0, 1, 5));
        busy.range("change(0, earlier, 0, 0, 1, 5)", 0, 2, (x, v) -> x.change(0, v, 0, 0, 1, 5));
        busy.range("change(0, 1, ear, 0, 1, 5)", 0, 1, (x, v) -> x.change(0, 1, v, 0, 1, 5));
        busy.range("change(0, 1, 0, way, 1, 5)", 0, 1, (x, v) -> x.change(0, 1, 0, v, 1, 5));
        busy.range("change(0, 1, 0, 0, tone, 5)", 0, 23, (x, v) -> x.change(0, 1, 0, 0, v, 5));
        busy.range("change(0, 1, 0, 0, 1, step)", 0, 1000, (x, v) -> x.change(0, 1, 0, 0, 1, v));
        busy.letBy("change(0, 1, 0, 0, 1, 2)", 1, x -> x.change(0, 1, 0, 0, 1, 2));
        busy.letBy("change(0, 1, 0, 0, 1, 3)", 0, x -> x.change(0, 1, 0, 0, 1, 3));
        busy.letBy("change(0, 1, 0, 0, 9, 3) with none then", NOTHING, x -> x.change(0, 1, 0, 0, 9, 3));
        busy.letBy("change(1, 0, 0, 0, 9, 3) with none now", NOTHING, x -> x.change(1, 0, 0, 0, 9, 3));
        busy.letBy("change(0, 0, 0, 0, 20, 3) of itself, none", NOTHING, x -> x.change(0, 0, 0, 0, 20, 3));
        busy.letBy("change(0, 0, 0, 0, 1, 0) of itself", 0, x -> x.change(0, 0, 0, 0, 1, 0));
        for (int sign = -1; sign <= 1; sign += 2) {
            c.due("just 5", changeOf(sign * 15.0, sign * 10.0, 5), 0);
            c.due("just 5 back", changeOf(sign * 10.0, sign * 15.0, 5), 0);
            c.due("a little further", changeOf(sign * Math.nextUp(15.0), sign * 10.0, 5), 1);
            c.due("a little further back", changeOf(sign * 10.0, sign * Math.nextUp(15.0), 5), 1);
            c.due("a little less", changeOf(sign * Math.nextDown(15.0), sign * 10.0, 5), 0);
            c.due("the least there is", changeOf(sign * Double.MIN_VALUE, 0.0, 0), 1);
            c.due("just 1000", changeOf(sign * 1000.0, 0.0, 1000), 0);
            c.due("further than 1000", changeOf(sign * 1000.0, sign * -0.5, 1000), 1);
            c.due("further than 1000 back", changeOf(sign * -0.5, sign * 1000.0, 1000), 1);
            c.due("2000", changeOf(sign * 1000.0, sign * -1000.0, 1000), 1);
        }
        c.due("0.0 and -0.0", changeOf(0.0, -0.0, 0), 0);
        c.due("-0.0 and 0.0", changeOf(-0.0, 0.0, 0), 0);
    }

    /** VALUES of two TONES: -1 less, 0 equal, 1 greater; NOTHING: one is none. BAD. */
    private static void compareTones() {
        busy.range("compare(chart, 0, 0, 1, 9)", 0, 2, (x, v) -> x.compare(v, 0, 0, 1, 9));
        busy.range("compare(0, ear, 0, 1, 9)", 0, 1, (x, v) -> x.compare(0, v, 0, 1, 9));
        busy.range("compare(0, 0, way, 1, 9)", 0, 1, (x, v) -> x.compare(0, 0, v, 1, 9));
        busy.range("compare(0, 0, 0, t, 9)", 0, 23, (x, v) -> x.compare(0, 0, 0, v, 9));
        busy.range("compare(0, 0, 0, 1, u)", 0, 23, (x, v) -> x.compare(0, 0, 0, 1, v));
        busy.letBy("compare(0, 0, 0, 20, 1)", NOTHING, x -> x.compare(0, 0, 0, 20, 1));
        busy.letBy("compare(0, 0, 0, 1, 20)", NOTHING, x -> x.compare(0, 0, 0, 1, 20));
        busy.letBy("compare(0, 0, 0, 20, 21)", NOTHING, x -> x.compare(0, 0, 0, 20, 21));
        busy.letBy("compare(0, 0, 0, 20, 20)", NOTHING, x -> x.compare(0, 0, 0, 20, 20));
        busy.letBy("compare(0, 0, 0, 1, 1)", 0, x -> x.compare(0, 0, 0, 1, 1));
        double[] rising = {-1000.0, Math.nextUp(-1000.0), -1.0, -Double.MIN_NORMAL, -Double.MIN_VALUE, -0.0, 0.0,
            Double.MIN_VALUE, Double.MIN_NORMAL, 1.0, Math.nextUp(1.0), Math.nextDown(1000.0), 1000.0};
        HearingRoom x = charted(rising);
        for (int t = 0; t < rising.length; t++) {
            for (int u = 0; u < rising.length; u++) {
                int due = rising[t] < rising[u] ? -1 : rising[t] > rising[u] ? 1 : 0;
                c.due("compare " + rising[t] + ", " + rising[u], x.compare(0, 0, 0, t, u), due);
            }
        }
    }

    private static void dueOrder(String told, HearingRoom x, int... first) {
        for (int k = 0; k < first.length; k++) {
            c.due("order(0, 0, 0, " + k + ") of " + told, x.order(0, 0, 0, k), first[k]);
            c.due("status()", x.status(), 0);
        }
    }

    /** Numbers first, rising, of like ones (0.0 and -0.0, too) the lesser TONE first; then those without, by TONES. */
    private static void orderOfValues() {
        busy.range("order(chart, 0, 0, 0)", 0, 2, (x, v) -> x.order(v, 0, 0, 0));
        busy.range("order(0, ear, 0, 0)", 0, 1, (x, v) -> x.order(0, v, 0, 0));
        busy.range("order(0, 0, way, 0)", 0, 1, (x, v) -> x.order(0, 0, v, 0));
        busy.range("order(0, 0, 0, k)", 0, 23, (x, v) -> x.order(0, 0, 0, v));
        HearingRoom empty = charted();
        for (int k = 0; k < 24; k++) c.due("without any " + k, empty.order(0, 0, 0, k), k);
        dueOrder("one number", charted(NONE, NONE, 5.0), 2, 0, 1, 3, 4);
        dueOrder("like ones", charted(5.0, 5.0, 4.0, 5.0), 2, 0, 1, 3, 4, 5);
        dueOrder("0.0 ahead of -0.0", charted(1.0, 0.0, -0.0, 0.0, -1.0), 4, 1, 2, 3, 0, 5);
        dueOrder("-0.0 ahead of 0.0", charted(1.0, -0.0, 0.0, -0.0, -1.0), 4, 1, 2, 3, 0, 5);
        dueOrder("gaps between", charted(NONE, 3.0, NONE, 2.0, NONE, 1.0), 5, 3, 1, 0, 2, 4, 6);
        dueOrder("least ones", charted(Double.MIN_VALUE, 0.0, -Double.MIN_VALUE), 2, 1, 0, 3);
        HearingRoom falling = charted();
        for (int tone = 0; tone < 24; tone++) falling.put(0, 0, 0, tone, bits(-tone));
        for (int k = 0; k < 24; k++) c.due("falling " + k, falling.order(0, 0, 0, k), 23 - k);
        HearingRoom same = charted();
        for (int tone = 0; tone < 24; tone++) same.put(0, 0, 0, tone, bits(7.0));
        for (int k = 0; k < 24; k++) c.due("all alike " + k, same.order(0, 0, 0, k), k);
        HearingRoom marked = charted(30.0, NONE, 10.0);
        marked.between(0, 0, 0, 1);
        dueOrder("a MARKED one among them", marked, 2, 1, 0, 3);
    }

    /** A chart with a VALUE at each place of all lines but one. */
    private static HearingRoom allBut(int line) {
        HearingRoom x = new HearingRoom();
        x.chart();
        for (int i = 0; i < 96; i++) {
            if (i / 24 != line) x.put(0, i / 48, i / 24 % 2, i % 24, bits(i - 500.0));
        }
        return x;
    }

    /** For each EAR, WAY, TONE a VALUE: those next to the ends of a line are of another EAR or WAY. */
    private static void eachLineForItself() {
        for (int line = 0; line < 4; line++) {
            int ear = line / 2;
            int way = line % 2;
            HearingRoom x = allBut(line);
            c.due("all lack in line " + line, x.lacking(0, ear, way, -1), 24);
            c.due("no mean of line " + line, x.mean(0, ear, way, -1), Check.NAN);
            c.due("no gap of line " + line, x.gap(0, ear, 0), Check.NAN);
            for (int k = 0; k < 24; k++) c.due("order " + k + " of line " + line, x.order(0, ear, way, k), k);
            c.due("neither below nor above", x.between(0, ear, way, 12), NOTHING);
            x.put(0, ear, way, 23, bits(23.0));
            c.due("none below", x.between(0, ear, way, 0), NOTHING);
            c.due("none below, further", x.between(0, ear, way, 5), NOTHING);
            x.put(0, ear, way, 23, Check.NAN);
            x.put(0, ear, way, 0, bits(1.0));
            c.due("none above", x.between(0, ear, way, 23), NOTHING);
            c.due("none above, further", x.between(0, ear, way, 5), NOTHING);
            c.due("one is there", x.lacking(0, ear, way, -1), 23);
            c.dueNumber("the mean of it", x.mean(0, ear, way, -1), 1.0);
            for (int bit = 24; bit < 32; bit++) c.due("bit " + bit, x.mean(0, ear, way, 1 << bit), Check.NAN);
            for (int bit = 24; bit < 32; bit++) c.due("bit " + bit, x.lacking(0, ear, way, 1 << bit), 0);
            for (int tone = 1; tone < 24; tone++) x.put(0, ear, way, tone, bits(1.0 - tone));
            for (int k = 0; k < 24; k++) c.due("order " + k + " of the line", x.order(0, ear, way, k), 23 - k);
            c.dueNumber("the mean of the line", x.mean(0, ear, way, -1), -10.5);
            c.due("nothing lacks", x.lacking(0, ear, way, -1), 0);
            c.dueNumber("gap at 0", x.gap(0, ear, 0), (way == 0 ? 1.0 : -1.0) * (1.0 - (48 * ear + 24 * (1 - way) - 500.0)));
        }
    }

    /** For each EAR, WAY, TONE a VALUE .. and whether that is MARKED: of that chart, that EAR, that WAY alone. */
    private static void eachLineOfEachChart() {
        for (int line = 0; line < 4; line++) {
            HearingRoom x = new HearingRoom();
            x.chart();
            x.chart();
            // in chart 0 tones 1 and 3 of a line are 10 and 20 times its number apart, in chart 1 they are not there
            for (int of = 0; of < 4; of++) {
                x.put(0, of / 2, of % 2, 1, bits(of * 100.0));
                x.put(0, of / 2, of % 2, 3, bits(of * 100.0 + (of - 2) * 20.0));
            }
            int ear = line / 2;
            int way = line % 2;
            c.due("between of line " + line, x.between(0, ear, way, 2), 1);
            for (int of = 0; of < 4; of++) {
                boolean same = of == line;
                String told = " of line " + of + ", filled was " + line;
                c.due("marked" + told, x.marked(0, of / 2, of % 2, 2), same ? 1 : 0);
                c.due("at" + told, x.at(0, of / 2, of % 2, 2), same ? bits(of * 100.0 + (of - 2) * 10.0) : Check.NAN);
                c.due("compare" + told, x.compare(0, of / 2, of % 2, 1, 3), of < 2 ? 1 : of > 2 ? -1 : 0);
                c.due("compare with 2" + told, x.compare(0, of / 2, of % 2, 2, 1), !same ? NOTHING : Integer.compare(of, 2));
                c.due("lacking" + told, x.lacking(0, of / 2, of % 2, 0b1110), same ? 0 : 1);
                c.due("lacking in the other chart" + told, x.lacking(1, of / 2, of % 2, 0b1110), 3);
            }
            x.put(1, ear, way, 1, bits(line * 100.0 + 7.0));
            for (int of = 0; of < 4; of++) {
                c.due("change by 7", x.change(0, 1, of / 2, of % 2, 1, 7), of == line ? 0 : NOTHING);
                c.due("change by 7 back", x.change(1, 0, of / 2, of % 2, 1, 7), of == line ? 0 : NOTHING);
                c.due("change by 6", x.change(0, 1, of / 2, of % 2, 1, 6), of == line ? 1 : NOTHING);
                c.due("change by 6 back", x.change(1, 0, of / 2, of % 2, 1, 6), of == line ? 1 : NOTHING);
            }
        }
    }
}
