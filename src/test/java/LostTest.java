/** Promise 14: lost. */
public final class LostTest {
    public static void main(String[] args) {
        Checks c = new Checks();
        phases(c);
        times(c);
        c.end();
    }

    private static void phases(Checks c) {
        c.sentence("The line is lost: which PHASE there was");
        for (int phase = 0; phase <= 8; phase++) {
            ChargeTalk x = Checks.inPhase(phase, true, 50, 100);
            c.due("lost(100) in PHASE " + phase, x.lost(100), phase);
            c.due("state()", x.state(), 0);
            c.due("lost(100) again", x.lost(100), 0);
        }
        c.due("lost(0) of a new object", new ChargeTalk().lost(0), 0);
    }

    private static void times(Checks c) {
        c.sentence("-2 the time");
        for (int phase = 1; phase <= 8; phase++) {
            ChargeTalk x = Checks.inPhase(phase, true, 50, 100);
            for (long t : new long[] {99, -1, Long.MIN_VALUE, Checks.TIME_MOST + 1, Long.MAX_VALUE}) {
                c.due("lost(" + t + ") in PHASE " + phase, x.lost(t), -2);
                c.due("state()", x.state(), phase);
            }
            c.due("lost(2^50) in PHASE " + phase, x.lost(Checks.TIME_MOST), phase);
            c.due("lost(2^50 - 1)", x.lost(Checks.TIME_MOST - 1), -2);
            c.due("message(0, 0, 2^50) after it", x.message(0, 0, Checks.TIME_MOST), 1);
        }
        ChargeTalk x = new ChargeTalk();
        c.due("lost(2^50 + 1) of a new object", x.lost(Checks.TIME_MOST + 1), -2);
        c.due("lost(2^50) of a new object", x.lost(Checks.TIME_MOST), 0);
    }
}
