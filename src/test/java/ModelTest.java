import java.lang.reflect.Method;
import java.util.Arrays;
import java.util.Comparator;
import java.util.Random;

/**
 * Chance runs of calls, each answer held against the model's; nothing may be thrown or sound on. A room has 512
 * calls in all: half of the rooms are asked why behind each call, the others seldom, so that more comes together.
 */
public final class ModelTest {
    private static final Check c = new Check("ModelTest");
    private static final int ROOMS = 8000, CALLS = 512;
    private static final int[] EDGES = {-1001, -1000, -999, -101, -21, -20, -11, -10, -1, 0, 1, 2, 3, 4, 5, 6, 12, 13,
        19, 20, 21, 23, 24, 25, 30, 31, 32, 39, 40, 41, 59, 60, 61, 99, 100, 101, 119, 120, 121, 199, 200, 201, 300,
        999, 1000, 1001, Integer.MAX_VALUE, Integer.MIN_VALUE};
    private static final String[] OFTEN = {"device", "plug", "row", "calibrate", "listener", "script", "limen", "seed",
        "test", "rule", "noise", "step", "step", "run", "run", "plateau", "replay", "chart", "enter", "put", "put",
        "between", "mean", "order", "drive", "plug", "row", "limen", "script"};
    private static Random luck;

    public static void main(String[] args) throws ReflectiveOperationException {
        Method[] face = Arrays.stream(HearingRoom.class.getDeclaredMethods())
            .filter(m -> (m.getModifiers() & 1) != 0).sorted(Comparator.comparing(Method::getName)).toArray(Method[]::new);
        for (int room = 0; room < ROOMS; room++) play(face, room);
        c.end();
    }

    private static void play(Method[] face, int seed) throws ReflectiveOperationException {
        luck = new Random(seed);
        HearingRoom x = new HearingRoom();
        Model model = new Model();
        boolean wild = seed % 8 > 5;
        int asks = seed % 2 == 0 ? 1 : 25;
        // the last calls are for the trace and the digest
        for (int i = 0, left = CALLS - 62; left > 5; i++) {
            Method m = pick(face);
            int[] a = new int[m.getParameterCount()];
            long bits = anyBits();
            Object[] given = new Object[a.length];
            for (int j = 0; j < a.length; j++) {
                a[j] = wild || luck.nextInt(60) == 0 ? anyInt() : likely(m.getName(), j, a, model);
                Class<?> type = m.getParameterTypes()[j];
                if (type == boolean.class) a[j] &= 1;
                given[j] = type == boolean.class ? (Object) (a[j] == 1) : type == long.class ? (Object) bits : (Object) a[j];
            }
            String call = "room " + seed + " call " + i + " " + m.getName() + Arrays.toString(given);
            long got = ((Number) m.invoke(x, given)).longValue();
            c.due(call, got, model.call(m.getName(), a, bits));
            left--;
            if (luck.nextInt(asks) > 0) continue;
            c.due("status() behind " + call, x.status(), model.status);
            c.due("finding() behind " + call, x.finding(), model.finding);
            left -= 2;
            if (luck.nextInt(4) > 0) continue;
            c.due("silent(0) behind " + call, x.silent(0), model.begun);
            c.due("silent(1) behind " + call, x.silent(1), model.silenced);
            left -= 2;
        }
        for (int k = 0; k < 61; k++) {
            c.due("room " + seed + " trace " + k, x.trace(k), k < model.traced.size() ? model.traced.get(k) : -1000);
        }
        c.due("room " + seed + " digest", x.digest(), model.call("digest", new int[0], 0L));
    }

    private static Method pick(Method[] face) {
        if (luck.nextInt(2) == 0) return face[luck.nextInt(face.length)];
        String name = OFTEN[luck.nextInt(OFTEN.length)];
        for (Method m : face) if (m.getName().equals(name)) return m;
        return face[0];
    }

    private static int anyInt() {
        return luck.nextInt(4) == 0 ? luck.nextInt() : EDGES[luck.nextInt(EDGES.length)];
    }

    private static int among(int size) {
        return size == 0 ? 0 : luck.nextInt(Math.min(size, 6));
    }

    private static int anyLevel() {
        return luck.nextInt(8) == 0 ? -1000 : luck.nextInt(4) == 0 ? luck.nextInt(141) - 20 : luck.nextInt(15) * 5 - 10;
    }

    /** An argument that is mostly not BAD; few ears and tones, so that calls meet one another. */
    private static int likely(String name, int j, int[] a, Model model) {
        int tone = luck.nextInt(8) == 0 ? luck.nextInt(24) : luck.nextInt(5);
        int ear = luck.nextInt(2);
        switch (name) {
            case "device": return j == 0 ? luck.nextInt(5) : among(model.devices.size());
            case "plug": return j == 0 ? among(model.devices.size()) : luck.nextInt(5) == 0 ? 0 : 1;
            case "row": return j == 0 ? among(model.devices.size()) : luck.nextInt(4) > 0 ? 24 : luck.nextInt(26) - 1;
            case "calibrate": return j == 0 ? among(model.devices.size()) : j == 1 ? tone
                : j == 2 ? luck.nextInt(60) - 10 : luck.nextInt(12) - 2;
            case "offset": return j == 0 ? among(model.devices.size()) : tone;
            case "drive": return j == 0 ? among(model.devices.size()) : j == 1 ? ear : j == 2 ? tone : luck.nextInt(141) - 20;
            case "kindOf": return j == 0 ? among(model.devices.size()) : luck.nextInt(6);
            case "listener": return luck.nextInt(2);
            case "script": return j == 0 ? among(model.listeners.size()) : j == 1 ? luck.nextInt() : 1 + luck.nextInt(31);
            case "limen": return j == 0 ? among(model.listeners.size()) : j == 1 ? ear : j == 2 ? tone : anyLevel();
            case "seed": return j == 0 ? among(model.listeners.size()) : j == 1 ? luck.nextInt() : luck.nextInt(21);
            case "listenerOf": return j == 0 ? among(model.listeners.size()) : luck.nextInt(3);
            case "test": return j == 0 ? among(model.devices.size()) : j == 1 ? among(model.listeners.size())
                : j == 2 ? ear : tone;
            case "rule": return j == 0 ? someTest(model) : j == 1 ? luck.nextInt(11) : ruled(a[1]);
            case "noise": return j == 0 ? someTest(model) : anyLevel();
            case "run": return j == 0 ? someTest(model) : luck.nextInt(2) == 0 ? 200 : luck.nextInt(9);
            case "told": return j == 0 ? someTest(model) : luck.nextInt(13);
            case "plateau": return planned(j, a, model);
            case "plateauOf": return luck.nextInt(5);
            case "tone": case "answer": case "turn": return j == 0 ? someTest(model) : luck.nextInt(9) - 1;
            case "step": case "replay": case "threshold": case "rate": case "unsure": return someTest(model);
            default: return likelyOfCharts(name, j, tone, ear, model);
        }
    }

    /** Old tests are soon over, so the newest ones are asked more often. */
    private static int someTest(Model model) {
        int size = model.tests.size();
        return size == 0 ? 0 : luck.nextInt(4) == 0 ? luck.nextInt(size) : Math.max(0, size - 1 - luck.nextInt(3));
    }

    private static int ruled(int what) {
        switch (what) {
            case 0: return luck.nextInt(80) - 10;
            case 1: case 2: case 3: return luck.nextInt(30);
            case 4: case 5: return 1 + luck.nextInt(8);
            case 6: return 1 + luck.nextInt(luck.nextInt(4) == 0 ? 200 : 30);
            case 7: return luck.nextInt(40) - 20;
            case 8: return luck.nextInt(80) + 40;
            case 9: return luck.nextInt(6);
            default: return luck.nextInt(1001);
        }
    }

    private static int planned(int j, int[] a, Model model) {
        switch (j) {
            case 0: return someTest(model);
            case 1: return luck.nextInt(100) - 20;
            case 2: return 1 + luck.nextInt(20);
            case 3: return 2 + luck.nextInt(11);
            case 4: return 2 + luck.nextInt(3);
            default: return luck.nextInt(61);
        }
    }

    private static int likelyOfCharts(String name, int j, int tone, int ear, Model model) {
        int chart = among(model.charts.size());
        switch (name) {
            case "enter": return j == 0 ? chart : someTest(model);
            case "put": case "at": case "between": case "marked": return j == 0 ? chart : j == 3 ? tone : ear;
            case "mean": case "lacking": return j == 0 ? chart : j == 3 ? luck.nextInt() : ear;
            case "gap": return j == 0 ? chart : j == 1 ? ear : tone;
            case "change": return j < 2 ? chart : j == 4 ? tone : j == 5 ? luck.nextInt(60) : ear;
            case "compare": return j == 0 ? chart : j > 2 ? tone : ear;
            case "order": return j == 0 ? chart : j == 3 ? luck.nextInt(24) : ear;
            case "trace": return luck.nextInt(60);
            default: return luck.nextInt(10);
        }
    }

    private static long anyBits() {
        switch (luck.nextInt(8)) {
            case 0: return luck.nextLong();
            case 1: return Check.NAN;
            case 2: return luck.nextBoolean() ? 0L : Long.MIN_VALUE;
            case 3: return luck.nextLong() & 0x8000000000000003L;
            case 4: return Double.doubleToLongBits((luck.nextDouble() - 0.5) * 2000.0);
            default: return Double.doubleToLongBits(luck.nextInt(281) / 2.0 - 20.0);
        }
    }
}
