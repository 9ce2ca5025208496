import java.util.Random;

/** Doubles and their bits as charts and offsets show them, against Java's own. */
public final class BitsTest {
    private static final Check c = new Check("BitsTest");
    private static final Random luck = new Random(20261116L);

    public static void main(String[] args) {
        for (int round = 0; round < 3000; round++) {
            HearingRoom x = new HearingRoom();
            x.chart();
            double a = anyValue();
            double b = anyValue();
            x.put(0, 0, 0, 3, Double.doubleToRawLongBits(a));
            x.put(0, 0, 1, 3, Double.doubleToRawLongBits(b));
            x.put(0, 0, 0, 10, Double.doubleToRawLongBits(b));
            String both = a + " and " + b;
            c.dueNumber("gap of " + both, x.gap(0, 0, 3), a - b);
            c.dueNumber("mean of " + both, x.mean(0, 0, 0, -1), (0.0 + a + b) / 2.0);
            c.dueNumber("mean of " + a, x.mean(0, 0, 0, 8), (0.0 + a) / 1.0);
            int tone = 4 + luck.nextInt(6);
            c.due("between of " + both, x.between(0, 0, 0, tone), 1);
            c.dueNumber("at of " + both, x.at(0, 0, 0, tone), a + (b - a) * (tone - 3) / 7);
            c.due("compare " + both, x.compare(0, 0, 0, 3, 10), a < b ? -1 : a > b ? 1 : 0);
            dueOffset();
        }
        for (int power = -1074; power < 10; power++) dueAlone(Math.scalb(1.0, power));
        c.end();
    }

    private static void dueAlone(double v) {
        HearingRoom x = new HearingRoom();
        x.chart();
        double[] near = {v, -v, Math.nextUp(v), Math.nextDown(v)};
        for (double n : near) {
            x.put(0, 0, 0, 0, Double.doubleToRawLongBits(n));
            c.dueNumber("mean of " + n, x.mean(0, 0, 0, 1), 0.0 + n);
        }
    }

    private static void dueOffset() {
        HearingRoom x = new HearingRoom();
        int d = Rooms.ready(x, luck.nextInt(4));
        int top = luck.nextInt() >> luck.nextInt(32);
        int bottom = luck.nextInt() >> luck.nextInt(32);
        if (top == 0 && bottom == 0) return;
        x.calibrate(d, 0, top, bottom);
        c.dueNumber("offset " + top + " by " + bottom, x.offset(d, 0), (double) ((float) top / (float) bottom));
    }

    private static double anyValue() {
        switch (luck.nextInt(5)) {
            case 0: return luck.nextInt(281) / 2.0 - 20.0;
            case 1: return (luck.nextDouble() - 0.5) * 2000.0;
            case 2: return luck.nextBoolean() ? 0.0 : -0.0;
            case 3: return Double.longBitsToDouble(luck.nextLong() & 0x800000000000000fL);
            default: return Math.scalb(luck.nextDouble() - 0.5, 10 - luck.nextInt(1090));
        }
    }
}
