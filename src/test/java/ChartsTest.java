/** Promises 29 to 40. */
public final class ChartsTest {
    private static final int NOTHING = -1000, FULL = -1002, STATE = -1003;
    private static final Check c = new Check("ChartsTest");

    public static void main(String[] args) {
        promise29Chart();
        promise30Enter();
        promise31Put();
        promise32At();
        promise33Between();
        promise33OnlyMeasured();
        promise34Marked();
        promise35Mean();
        promise36Lacking();
        promise37Gap();
        promise38Change();
        promise39Compare();
        promise40Order();
        c.end();
    }

    private static long bits(double v) {
        return Double.doubleToRawLongBits(v);
    }

    private static HearingRoom charted(int many) {
        HearingRoom x = new HearingRoom();
        for (int i = 0; i < many; i++) x.chart();
        return x;
    }

    private static void promise29Chart() {
        HearingRoom x = new HearingRoom();
        for (int i = 0; i < 20; i++) c.due("chart " + i, x.chart(), i);
        c.dueRefused(x, "chart 20", x.chart(), FULL);
        c.due("count(3)", x.count(3), 20);
        for (int tone = 0; tone < 24; tone++) {
            c.due("none at first", x.at(19, tone & 1, tone >> 1 & 1, tone), Check.NAN);
            c.due("not marked at first", x.marked(19, tone & 1, tone >> 1 & 1, tone), 0);
        }
    }

    private static void promise30Enter() {
        HearingRoom x = charted(1);
        int phone = Rooms.ready(x, 0);
        int bone = Rooms.ready(x, 1);
        int pair = x.device(4, bone, phone);
        x.plug(pair, true);
        int l = Rooms.reciter(x, "");
        int[][] tests = {{phone, 0, 0}, {bone, 1, 1}, {pair, 0, 1}, {pair, 1, 0}};
        for (int i = 0; i < tests.length; i++) {
            int t = x.test(tests[i][0], l, tests[i][1], i + 3);
            c.dueRefused(x, "not ENDED", x.enter(0, t), STATE);
            x.rule(t, 5, 1);
            x.rule(t, 4, 1);
            Rooms.tell(x, l, "10");
            x.put(0, tests[i][1], tests[i][2], i + 2, bits(1.0));
            x.put(0, tests[i][1], tests[i][2], i + 4, bits(2.0));
            x.between(0, tests[i][1], tests[i][2], i + 3);
            c.due("it is MARKED", x.marked(0, tests[i][1], tests[i][2], i + 3), 1);
            x.run(t, 200);
            c.due("enter", x.enter(0, t), 1);
            c.dueNumber("its value", x.at(0, tests[i][1], tests[i][2], i + 3), 20.0);
            c.due("it is no longer MARKED", x.marked(0, tests[i][1], tests[i][2], i + 3), 0);
        }
        int none = x.test(phone, l, 0, 3);
        x.rule(none, 6, 1);
        Rooms.tell(x, l, "1");
        x.step(none);
        c.due("enter none", x.enter(0, none), 0);
        c.due("status()", x.status(), 0);
        c.due("there is none now", x.at(0, 0, 0, 3), Check.NAN);
        c.dueBad(x, "enter(1, 0)", x.enter(1, 0));
        c.dueBad(x, "enter(-1, 0)", x.enter(-1, 0));
        c.dueBad(x, "enter(0, 5)", x.enter(0, 5));
        c.dueBad(x, "enter(0, -1)", x.enter(0, -1));
        // LOW up to 0 and below: thresholds that are 0 and negative
        int[] starts = {20, 10};
        for (int start : starts) {
            int t = x.test(phone, l, 1, 20);
            x.rule(t, 0, start);
            x.rule(t, 5, 1);
            x.rule(t, 4, 1);
            Rooms.tell(x, l, "10");
            x.run(t, 2);
            c.due("enter", x.enter(0, t), 1);
            c.dueNumber("its value", x.at(0, 1, 0, 20), (double) (start - 20));
        }
    }

    private static void promise31Put() {
        HearingRoom x = charted(1);
        double[] fine = {0.0, -0.0, 1000.0, -1000.0, 999.9999999999999, Double.MIN_VALUE, -Double.MIN_VALUE,
            Double.MIN_NORMAL, 1e-310, 0.1, -33.3};
        for (double v : fine) {
            c.due("put " + v, x.put(0, 1, 1, 23, bits(v)), 1);
            c.dueNumber("at " + v, x.at(0, 1, 1, 23), v);
        }
        double[] wrong = {1000.0000000000001, -1000.0000000000001, 1e308, -1e308, Double.POSITIVE_INFINITY,
            Double.NEGATIVE_INFINITY, Double.MAX_VALUE};
        for (double v : wrong) c.dueBad(x, "put " + v, x.put(0, 1, 1, 23, bits(v)));
        c.dueNumber("it stayed", x.at(0, 1, 1, 23), -33.3);
        long[] nans = {Check.NAN, -1L, 0x7ff0000000000001L, 0xfff0000000000001L, 0xfff8000000000000L, Long.MAX_VALUE};
        for (long n : nans) {
            x.put(0, 1, 1, 23, bits(5.0));
            c.due("put NAN " + n, x.put(0, 1, 1, 23, n), 1);
            c.due("at NAN " + n, x.at(0, 1, 1, 23), Check.NAN);
        }
        c.dueBad(x, "chart 1", x.put(1, 0, 0, 0, 0L));
        c.dueBad(x, "chart -1", x.put(-1, 0, 0, 0, 0L));
        c.dueBad(x, "ear 2", x.put(0, 2, 0, 0, 0L));
        c.dueBad(x, "ear -1", x.put(0, -1, 0, 0, 0L));
        c.dueBad(x, "way 2", x.put(0, 0, 2, 0, 0L));
        c.dueBad(x, "way -1", x.put(0, 0, -1, 0, 0L));
        c.dueBad(x, "tone 24", x.put(0, 0, 0, 24, 0L));
        c.dueBad(x, "tone -1", x.put(0, 0, 0, -1, 0L));
    }

    private static void promise32At() {
        HearingRoom x = charted(2);
        for (int i = 0; i < 192; i++) x.put(i / 96, i / 48 % 2, i / 24 % 2, i % 24, bits(i + 0.25));
        for (int i = 0; i < 192; i++) {
            c.dueNumber("at " + i, x.at(i / 96, i / 48 % 2, i / 24 % 2, i % 24), i + 0.25);
        }
        c.due("status()", x.status(), 0);
        c.dueBadBits(x, "chart 2", x.at(2, 0, 0, 0));
        c.dueBadBits(x, "ear 2", x.at(0, 2, 0, 0));
        c.dueBadBits(x, "way 2", x.at(0, 0, 2, 0));
        c.dueBadBits(x, "tone 24", x.at(0, 0, 0, 24));
        c.dueBadBits(x, "tone -1", x.at(0, 0, 0, -1));
        HearingRoom y = charted(1);
        c.due("none", y.at(0, 0, 0, 0), Check.NAN);
        c.due("is no refusal", y.status(), 0);
    }

    private static void promise33Between() {
        HearingRoom x = charted(1);
        c.due("there are not both", x.between(0, 0, 0, 5), NOTHING);
        c.due("status()", x.status(), 0);
        x.put(0, 0, 0, 2, bits(0.1));
        c.due("one below", x.between(0, 0, 0, 5), NOTHING);
        x.put(0, 0, 0, 9, bits(77.7));
        c.due("one below, of two below", x.between(0, 0, 0, 10), NOTHING);
        c.due("none below", x.between(0, 0, 0, 1), NOTHING);
        c.due("at the edge 0", x.between(0, 0, 0, 0), NOTHING);
        c.due("at the edge 23", x.between(0, 0, 0, 23), NOTHING);
        c.due("none was filled", x.lacking(0, 0, 0, -1), 22);
        c.due("between", x.between(0, 0, 0, 5), 1);
        c.dueNumber("in that order", x.at(0, 0, 0, 5), 0.1 + (77.7 - 0.1) * 3.0 / 7.0);
        c.due("there is a value", x.between(0, 0, 0, 5), 0);
        c.due("there is a value", x.between(0, 0, 0, 2), 0);
        c.due("one was filled", x.lacking(0, 0, 0, -1), 21);
        c.due("other ways stay", x.between(0, 0, 1, 5), NOTHING);
        c.due("other ears stay", x.between(0, 1, 0, 5), NOTHING);
        c.dueBad(x, "chart 1", x.between(1, 0, 0, 5));
        c.dueBad(x, "ear 2", x.between(0, 2, 0, 5));
        c.dueBad(x, "way 2", x.between(0, 0, 2, 5));
        c.dueBad(x, "tone 24", x.between(0, 0, 0, 24));
        c.dueBad(x, "tone -1", x.between(0, 0, 0, -1));
        HearingRoom y = charted(1);
        y.put(0, 0, 0, 1, bits(-0.0));
        y.put(0, 0, 0, 3, bits(-Double.MIN_VALUE));
        y.between(0, 0, 0, 2);
        c.dueNumber("-0.0 of half the least", y.at(0, 0, 0, 2), -0.0);
        y.put(0, 0, 0, 3, bits(-0.0));
        y.put(0, 0, 0, 2, Check.NAN);
        y.between(0, 0, 0, 2);
        c.dueNumber("0.0 of two -0.0", y.at(0, 0, 0, 2), 0.0);
    }

    private static void promise33OnlyMeasured() {
        HearingRoom x = charted(1);
        x.put(0, 0, 0, 0, bits(0.0));
        x.put(0, 0, 0, 8, bits(80.0));
        x.between(0, 0, 0, 4);
        x.put(0, 0, 0, 8, bits(160.0));
        c.due("marked ones are passed over", x.between(0, 0, 0, 2), 1);
        c.dueNumber("from 0 to 8", x.at(0, 0, 0, 2), 40.0);
        x.put(0, 0, 0, 4, x.at(0, 0, 0, 4));
        c.due("put takes the mark away", x.between(0, 0, 0, 1), 1);
        c.dueNumber("from 0 to 4", x.at(0, 0, 0, 1), 10.0);
        x.put(0, 0, 0, 0, Check.NAN);
        c.due("a marked one below is none", x.between(0, 0, 0, 3), NOTHING);
    }

    private static void promise34Marked() {
        HearingRoom x = charted(1);
        x.put(0, 1, 1, 0, bits(1.0));
        x.put(0, 1, 1, 2, bits(3.0));
        c.due("none", x.marked(0, 1, 1, 1), 0);
        x.between(0, 1, 1, 1);
        c.due("between", x.marked(0, 1, 1, 1), 1);
        c.due("put", x.marked(0, 1, 1, 0), 0);
        c.due("another way", x.marked(0, 1, 0, 1), 0);
        x.put(0, 1, 1, 1, bits(5000.0));
        c.due("BAD leaves it", x.marked(0, 1, 1, 1), 1);
        x.put(0, 1, 1, 1, bits(2.0));
        c.due("put takes it away", x.marked(0, 1, 1, 1), 0);
        x.put(0, 1, 1, 1, Check.NAN);
        x.between(0, 1, 1, 1);
        x.put(0, 1, 1, 1, Check.NAN);
        c.due("put of none takes it away", x.marked(0, 1, 1, 1), 0);
        c.dueBad(x, "chart 1", x.marked(1, 0, 0, 0));
        c.dueBad(x, "ear 2", x.marked(0, 2, 0, 0));
        c.dueBad(x, "way 2", x.marked(0, 0, 2, 0));
        c.dueBad(x, "tone 24", x.marked(0, 0, 0, 24));
    }

    private static void promise35Mean() {
        HearingRoom x = charted(1);
        c.due("none", x.mean(0, 0, 0, -1), Check.NAN);
        c.due("status()", x.status(), 0);
        x.put(0, 0, 0, 0, bits(0.1));
        x.put(0, 0, 0, 2, bits(0.2));
        x.put(0, 0, 0, 3, bits(0.3));
        x.put(0, 0, 0, 23, bits(1000.0));
        c.dueNumber("from the lowest on", x.mean(0, 0, 0, 0b1101), (0.0 + 0.1 + 0.2 + 0.3) / 3.0);
        c.dueNumber("of those there are", x.mean(0, 0, 0, 0b0111), (0.1 + 0.2) / 2.0);
        x.between(0, 0, 0, 1);
        double filled = Double.longBitsToDouble(x.at(0, 0, 0, 1));
        c.dueNumber("MARKED ones, too", x.mean(0, 0, 0, 0b0011), (0.1 + filled) / 2.0);
        c.dueNumber("tone 23", x.mean(0, 0, 0, 1 << 23), 1000.0);
        c.due("tones from 24 on", x.mean(0, 0, 0, 0xff000000), Check.NAN);
        c.due("no tones", x.mean(0, 0, 0, 0), Check.NAN);
        c.dueNumber("all", x.mean(0, 0, 0, -1), (0.1 + filled + 0.2 + 0.3 + 1000.0) / 5.0);
        x.put(0, 1, 0, 0, bits(-0.0));
        c.dueNumber("at first 0.0", x.mean(0, 1, 0, 1), 0.0);
        x.put(0, 1, 0, 1, bits(-Double.MIN_VALUE));
        c.dueNumber("-0.0 by rounding", x.mean(0, 1, 0, 3), -0.0);
        c.dueBadBits(x, "chart 1", x.mean(1, 0, 0, 1));
        c.dueBadBits(x, "ear 2", x.mean(0, 2, 0, 1));
        c.dueBadBits(x, "way 2", x.mean(0, 0, 2, 1));
        c.dueBadBits(x, "way -1", x.mean(0, 0, -1, 1));
    }

    private static void promise36Lacking() {
        HearingRoom x = charted(1);
        c.due("all", x.lacking(0, 0, 0, -1), 24);
        c.due("none asked", x.lacking(0, 0, 0, 0xff000000), 0);
        x.put(0, 0, 0, 3, bits(1.0));
        x.put(0, 0, 0, 23, bits(1.0));
        c.due("all but two", x.lacking(0, 0, 0, -1), 22);
        c.due("two of them", x.lacking(0, 0, 0, 0b11000 | 1 << 23 | 1 << 22), 2);
        c.due("another way", x.lacking(0, 0, 1, 0b1000), 1);
        c.dueBad(x, "chart 1", x.lacking(1, 0, 0, 1));
        c.dueBad(x, "ear 2", x.lacking(0, 2, 0, 1));
        c.dueBad(x, "way 2", x.lacking(0, 0, 2, 1));
    }

    private static void promise37Gap() {
        HearingRoom x = charted(1);
        c.due("both none", x.gap(0, 0, 3), Check.NAN);
        c.due("status()", x.status(), 0);
        x.put(0, 0, 0, 3, bits(0.1));
        c.due("one none", x.gap(0, 0, 3), Check.NAN);
        x.put(0, 0, 1, 3, bits(0.7));
        c.dueNumber("gap", x.gap(0, 0, 3), 0.1 - 0.7);
        x.put(0, 1, 1, 3, bits(0.0));
        c.due("one none", x.gap(0, 1, 3), Check.NAN);
        x.put(0, 1, 0, 3, bits(-0.0));
        c.dueNumber("-0.0 less 0.0", x.gap(0, 1, 3), -0.0 - 0.0);
        x.put(0, 1, 0, 3, bits(1000.0));
        x.put(0, 1, 1, 3, bits(-1000.0));
        c.dueNumber("2000.0", x.gap(0, 1, 3), 2000.0);
        c.dueBadBits(x, "chart 1", x.gap(1, 0, 3));
        c.dueBadBits(x, "ear 2", x.gap(0, 2, 3));
        c.dueBadBits(x, "tone 24", x.gap(0, 0, 24));
        c.dueBadBits(x, "tone -1", x.gap(0, 0, -1));
    }

    private static void promise38Change() {
        HearingRoom x = charted(2);
        c.due("both none", x.change(0, 1, 0, 0, 4, 5), NOTHING);
        x.put(0, 0, 0, 4, bits(10.0));
        c.due("one none", x.change(0, 1, 0, 0, 4, 5), NOTHING);
        c.due("one none", x.change(1, 0, 0, 0, 4, 5), NOTHING);
        c.due("status()", x.status(), 0);
        x.put(1, 0, 0, 4, bits(15.0));
        c.due("just 5", x.change(0, 1, 0, 0, 4, 5), 0);
        c.due("just 5", x.change(1, 0, 0, 0, 4, 5), 0);
        c.due("further than 4", x.change(0, 1, 0, 0, 4, 4), 1);
        c.due("further than 4", x.change(1, 0, 0, 0, 4, 4), 1);
        c.due("the same chart", x.change(0, 0, 0, 0, 4, 0), 0);
        x.put(1, 0, 0, 4, bits(15.000000000000002));
        c.due("a little further", x.change(0, 1, 0, 0, 4, 5), 1);
        x.put(0, 0, 0, 4, bits(-1000.0));
        x.put(1, 0, 0, 4, bits(0.0));
        c.due("just 1000", x.change(0, 1, 0, 0, 4, 1000), 0);
        x.put(1, 0, 0, 4, bits(0.5));
        c.due("further than 1000", x.change(0, 1, 0, 0, 4, 1000), 1);
        c.dueBad(x, "step -1", x.change(0, 1, 0, 0, 4, -1));
        c.dueBad(x, "step 1001", x.change(0, 1, 0, 0, 4, 1001));
        c.dueBad(x, "chart 2", x.change(2, 1, 0, 0, 4, 5));
        c.dueBad(x, "earlier 2", x.change(0, 2, 0, 0, 4, 5));
        c.dueBad(x, "earlier -1", x.change(0, -1, 0, 0, 4, 5));
        c.dueBad(x, "ear 2", x.change(0, 1, 2, 0, 4, 5));
        c.dueBad(x, "way 2", x.change(0, 1, 0, 2, 4, 5));
        c.dueBad(x, "tone 24", x.change(0, 1, 0, 0, 24, 5));
    }

    private static void promise39Compare() {
        HearingRoom x = charted(1);
        double[] rising = {-1000.0, -1.5, -1.0, -Double.MIN_VALUE, -0.0, 0.0, Double.MIN_VALUE, 1.0, 1.5, 1000.0};
        for (int i = 0; i < rising.length; i++) x.put(0, 0, 1, i, bits(rising[i]));
        for (int i = 0; i < rising.length; i++) {
            for (int j = 0; j < rising.length; j++) {
                int due = rising[i] < rising[j] ? -1 : rising[i] > rising[j] ? 1 : 0;
                c.due("compare " + rising[i] + ", " + rising[j], x.compare(0, 0, 1, i, j), due);
            }
            c.due("one none", x.compare(0, 0, 1, i, 20), NOTHING);
            c.due("one none", x.compare(0, 0, 1, 20, i), NOTHING);
        }
        c.due("both none", x.compare(0, 0, 1, 20, 20), NOTHING);
        c.due("status()", x.status(), 0);
        c.dueBad(x, "chart 1", x.compare(1, 0, 0, 0, 1));
        c.dueBad(x, "ear 2", x.compare(0, 2, 0, 0, 1));
        c.dueBad(x, "way 2", x.compare(0, 0, 2, 0, 1));
        c.dueBad(x, "t 24", x.compare(0, 0, 0, 24, 1));
        c.dueBad(x, "u 24", x.compare(0, 0, 0, 0, 24));
        c.dueBad(x, "u -1", x.compare(0, 0, 0, 0, -1));
    }

    private static void promise40Order() {
        HearingRoom x = charted(1);
        for (int k = 0; k < 24; k++) c.due("all none", x.order(0, 0, 0, k), k);
        x.put(0, 0, 0, 22, bits(-3.0));
        x.put(0, 0, 0, 20, bits(0.0));
        x.put(0, 0, 0, 18, bits(-0.0));
        x.put(0, 0, 0, 10, bits(0.0));
        x.put(0, 0, 0, 5, bits(7.0));
        x.put(0, 0, 0, 2, bits(7.0));
        x.put(0, 0, 0, 1, bits(-3.5));
        int[] due = {1, 22, 10, 18, 20, 2, 5, 0, 3, 4, 6, 7, 8, 9, 11, 12, 13, 14, 15, 16, 17, 19, 21, 23};
        for (int k = 0; k < 24; k++) c.due("order " + k, x.order(0, 0, 0, k), due[k]);
        c.due("status()", x.status(), 0);
        c.dueBad(x, "k 24", x.order(0, 0, 0, 24));
        c.dueBad(x, "k -1", x.order(0, 0, 0, -1));
        c.dueBad(x, "chart 1", x.order(1, 0, 0, 0));
        c.dueBad(x, "ear 2", x.order(0, 2, 0, 0));
        c.dueBad(x, "way 2", x.order(0, 0, 2, 0));
    }
}
