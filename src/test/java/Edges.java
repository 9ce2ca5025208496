import java.util.ArrayList;
import java.util.List;
import java.util.Set;
import java.util.function.Supplier;

/**
 * Ends of ranges, and calls that are refused, in rooms of one make. A refused call is made in one of two like
 * rooms; whatever is asked of the two behind it must be answered alike, but for what the document names.
 * Calls are told as they are written, "row(0, 25)", so that their names say what the document asks of them.
 */
final class Edges {
    interface Call {
        long on(HearingRoom x);
    }

    interface CallWith {
        long on(HearingRoom x, int v);
    }

    private static final int BAD = -1001;
    private static final Set<String> WIDE = Set.of("offset", "drive", "at", "mean", "gap", "digest");
    private static final Set<String> FINDS = Set.of("row", "calibrate", "offset", "drive", "step", "run", "tone",
        "answer", "turn", "rate", "unsure", "plateau", "replay");
    private static final Set<String> TRACED = Set.of("drive", "step", "run", "plateau", "replay");
    private static final Set<String> TELLS = Set.of("status", "finding", "findings", "silent", "trace", "count");

    private final Check c;
    private final Supplier<HearingRoom> make;
    private final List<List<Long>> untouched = new ArrayList<>();

    Edges(Check c, Supplier<HearingRoom> make) {
        this.c = c;
        this.make = make;
        for (int part = 0; part < Snapshot.PARTS; part++) {
            untouched.add(Snapshot.of(make.get(), part));
            c.due("part " + part + " leaves room for the calls of the make", untouched.get(part).size() < 330 ? 1 : 0, 1);
        }
    }

    /** It is not refused, and answers this; TRACE and the latest finding go on only where it has its own. */
    void letBy(String told, long answer, Call call) {
        String name = told.substring(0, told.indexOf('('));
        HearingRoom x = make.get();
        int finding = x.finding();
        c.due(told, call.on(x), answer);
        c.due("status() behind " + told, x.status(), 0);
        c.due("finding() behind " + told, x.finding(), FINDS.contains(name) ? 0 : finding);
        if (!TRACED.contains(name)) dueAlike(told, Snapshot.TRACE, call);
        if (!TRACED.contains(name)) dueAlike(told, Snapshot.SILENT, call);
        dueAlike(told, Snapshot.FINDINGS, call);
    }

    /** It is refused as BAD, FULL or STATE, and nothing else changed. */
    void refused(String told, int why, Call call) {
        String name = told.substring(0, told.indexOf('('));
        HearingRoom x = make.get();
        int status = x.status();
        int finding = x.finding();
        c.due(told, call.on(x), WIDE.contains(name) ? Check.NAN : why);
        c.due("status() behind " + told, x.status(), TELLS.contains(name) ? status : why);
        c.due("finding() behind " + told, x.finding(), FINDS.contains(name) ? 0 : finding);
        for (int part = 0; part < Snapshot.PARTS; part++) dueAlike(told, part, call);
    }

    /** It is refused by a finding with so many tones begun, and nothing else changed. */
    void found(String told, int finding, int begun, Call call) {
        String name = told.substring(0, told.indexOf('('));
        HearingRoom x = make.get();
        c.due(told, call.on(x), WIDE.contains(name) ? Check.NAN : -100 - finding);
        c.due("status() behind " + told, x.status(), -100 - finding);
        c.due("finding() behind " + told, x.finding(), finding);
        for (int f = 1; f <= 9; f++) {
            c.due("findings(" + f + ") behind " + told, x.findings(f),
                untouched.get(Snapshot.FINDINGS).get(f - 1) + (f == finding ? 1 : 0));
        }
        long before = untouched.get(Snapshot.SILENT).get(0);
        c.due("silent(0) behind " + told, x.silent(0), before + begun);
        c.due("silent(1) behind " + told, x.silent(1), before + begun);
        c.due("silent(2) behind " + told, x.silent(2), 0);
        if (!TRACED.contains(name)) dueAlike(told, Snapshot.TRACE, call);
        for (int part = Snapshot.COUNTS; part < Snapshot.PARTS; part++) dueAlike(told, part, call);
    }

    /** Both ends are let by; the next ones on either side, and the farthest, are BAD. */
    void range(String told, int least, int greatest, CallWith call) {
        int[] ends = {least, greatest};
        for (int v : ends) {
            HearingRoom x = make.get();
            call.on(x, v);
            c.due("status() behind " + told + " with " + v, x.status(), 0);
        }
        outside(told, least, greatest, call);
    }

    void outside(String told, int least, int greatest, CallWith call) {
        int[] beyond = {least - 1, greatest + 1, Integer.MIN_VALUE, Integer.MAX_VALUE};
        for (int v : beyond) refused(told + " with " + v, BAD, x -> call.on(x, v));
    }

    private void dueAlike(String told, int part, Call call) {
        HearingRoom x = make.get();
        call.on(x);
        List<Long> now = Snapshot.of(x, part);
        List<Long> then = untouched.get(part);
        int differing = now.size() == then.size() ? 0 : 1;
        for (int i = 0; i < now.size() && differing == 0; i++) differing = now.get(i).equals(then.get(i)) ? 0 : 1;
        c.due("changes in part " + part + " behind " + told, differing, 0);
    }
}
