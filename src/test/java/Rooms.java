/** Rooms that several tests begin with. */
final class Rooms {
    private Rooms() {
    }

    /** A device of the kind, plugged in, with a whole row of 0.0. */
    static int ready(HearingRoom x, int kind) {
        int d = x.device(kind, 0, 0);
        x.plug(d, true);
        x.row(d, 24);
        return d;
    }

    /** A listener by script, told the answers in words of '1' and '0'. */
    static int reciter(HearingRoom x, String answers) {
        int l = x.listener(0);
        tell(x, l, answers);
        return l;
    }

    static void tell(HearingRoom x, int listener, String answers) {
        for (int i = 0; i < answers.length(); i++) x.script(listener, answers.charAt(i) - '0', 1);
    }

    /** A test of a ready phone, whose listener recites. */
    static int recited(HearingRoom x, String answers) {
        int d = ready(x, 0);
        return x.test(d, reciter(x, answers), 0, 2);
    }
}
