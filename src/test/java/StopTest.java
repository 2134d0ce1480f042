/** Promise 11: stop. */
public final class StopTest {
    public static void main(String[] args) {
        Checks c = new Checks();
        perAmpere(c);
        atLeast(c);
        inNeed(c);
        lastMessage(c);
        beforeOne(c);
        thisTalkAlone(c);
        phaseAfter(c);
        noSuchKind(c);
        times(c);
        otherPhases(c);
        c.end();
    }

    /** A stop at once after message 7 with this v. */
    private static void stopAt(Checks c, int kind, long v, long want) {
        ChargeTalk x = Checks.inPhase(7, false, 5000, 0);
        x.message(7, v, 0);
        c.due("stop(" + kind + ", 0) after message(7, " + v + ", 0)", x.stop(kind, 0), want);
    }

    private static void perAmpere(Checks c) {
        c.sentence("1000 for each ampere of the last message 7, whole");
        long[][] due = {{60, 6000}, {61, 6000}, {69, 6000}, {70, 7000}, {4989, 498000}, {4990, 499000},
            {4999, 499000}, {5000, 500000}};
        for (long[] d : due) {
            stopAt(c, 0, d[0], d[1]);
        }
    }

    private static void atLeast(Checks c) {
        c.sentence("at least 5000");
        for (long v : new long[] {0, 1, 9, 10, 49, 50, 51, 59}) {
            stopAt(c, 0, v, 5000);
        }
        stopAt(c, 0, 60, 6000);
    }

    private static void inNeed(Checks c) {
        c.sentence("in need 5000");
        for (long v : new long[] {0, 49, 50, 59, 60, 5000}) {
            stopAt(c, 1, v, 5000);
        }
    }

    private static void lastMessage(Checks c) {
        c.sentence("of the last message 7");
        ChargeTalk x = Checks.inPhase(7, false, 5000, 0);
        x.message(7, 900, 0);
        x.message(7, 80, 0);
        x.message(8, 3000, 0);
        c.due("stop(0, 0)", x.stop(0, 0), 8000);
        ChargeTalk y = Checks.inPhase(7, false, 5000, 0);
        y.message(7, 80, 0);
        y.message(7, 900, 0);
        y.message(7, 2000000, 0);
        y.message(7, 60, -1);
        y.message(8, 10, 0);
        c.due("stop(0, 0) after refused messages and a lower LIMIT", y.stop(0, 0), 90000);
    }

    private static void beforeOne(Checks c) {
        c.sentence("0 before one");
        for (int kind = 0; kind <= 1; kind++) {
            c.due("stop(" + kind + ", 0)", Checks.inPhase(7, false, 5000, 0).stop(kind, 0), 5000);
            c.due("stop(" + kind + ", 0), direct", Checks.inPhase(7, true, 5000, 0).stop(kind, 0), 5000);
        }
        // The numbers of other messages are no current.
        ChargeTalk x = Checks.inPhase(6, true, 5000, 0);
        x.message(6, 900, 0);
        x.message(8, 800, 0);
        c.due("stop(0, 0) after message(6, 900, 0) and message(8, 800, 0)", x.stop(0, 0), 5000);
    }

    private static void thisTalkAlone(Checks c) {
        c.sentence("(of this TALK)");
        ChargeTalk x = Checks.inPhase(7, false, 5000, 0);
        x.message(7, 900, 0);
        x.lost(0);
        Checks.lead(x, 7, false, 5000, 0);
        c.due("stop(0, 0) in the second TALK", x.stop(0, 0), 5000);
        x.message(10, 0, 0);
        Checks.lead(x, 7, true, 5000, 0);
        x.message(7, 70, 0);
        c.due("stop(0, 0) in the third TALK", x.stop(0, 0), 7000);
    }

    private static void phaseAfter(Checks c) {
        c.sentence("the PHASE is 8, in need the TALK ENDS");
        ChargeTalk x = Checks.inPhase(7, false, 5000, 0);
        c.due("stop(0, 0)", x.stop(0, 0), 5000);
        c.due("state()", x.state(), 8);
        c.due("message(10, 0, 0)", x.message(10, 0, 0), 0);
        ChargeTalk y = Checks.inPhase(7, true, 5000, 0);
        c.due("stop(1, 0)", y.stop(1, 0), 5000);
        c.due("state()", y.state(), 0);
        c.due("message(10, 0, 0)", y.message(10, 0, 0), -3);
    }

    private static void noSuchKind(Checks c) {
        c.sentence("-1 no such kind");
        for (int phase = 0; phase <= 8; phase++) {
            ChargeTalk x = Checks.inPhase(phase, true, 50, 0);
            for (int kind : new int[] {-1, 2, 3, Integer.MIN_VALUE, Integer.MAX_VALUE}) {
                c.due("stop(" + kind + ", 0) in PHASE " + phase, x.stop(kind, 0), -1);
                c.due("state()", x.state(), phase);
            }
        }
    }

    private static void times(Checks c) {
        c.sentence("-2 the time");
        for (int kind = 0; kind <= 1; kind++) {
            ChargeTalk x = Checks.inPhase(7, false, 5000, 100);
            long[] wrong = {99, Long.MIN_VALUE, Checks.TIME_MOST + 1, Long.MAX_VALUE};
            for (long t : wrong) {
                c.due("stop(" + kind + ", " + t + ")", x.stop(kind, t), -2);
                c.due("state()", x.state(), 7);
            }
            c.due("stop(" + kind + ", 100)", x.stop(kind, 100), 5000);
        }
    }

    private static void otherPhases(Checks c) {
        c.sentence("-3 the PHASE is not 7");
        for (int phase = 0; phase <= 8; phase++) {
            for (int kind = 0; kind <= 1; kind++) {
                ChargeTalk x = Checks.inPhase(phase, true, 50, 0);
                c.due("stop(" + kind + ", 900) in PHASE " + phase, x.stop(kind, 900), phase == 7 ? 5000 : -3);
                c.due("state()", x.state(), phase != 7 ? phase : kind == 0 ? 8 : 0);
            }
        }
    }
}
