/** Promise 11: stop. */
public final class StopTest {
    private static final long TIME_MOST = 1L << 50;

    public static void main(String[] args) {
        Checks c = new Checks();
        byCurrent(c);
        thisTalkAlone(c);
        refusals(c);
        c.end();
    }

    private static void byCurrent(Checks c) {
        long[][] due = {{0, 5000}, {9, 5000}, {50, 5000}, {59, 5000}, {60, 6000}, {69, 6000}, {70, 7000},
            {4999, 499000}, {5000, 500000}};
        for (long[] d : due) {
            ChargeTalk x = Checks.inPhase(7, false, 5000, 0);
            x.message(7, d[0], 0);
            c.due("stop(0, 0) at " + d[0], x.stop(0, 0), d[1]);
            c.due("state()", x.state(), 8);
            c.due("message(10, 0, 0)", x.message(10, 0, 0), 0);
            ChargeTalk y = Checks.inPhase(7, true, 5000, 0);
            y.message(7, d[0], 0);
            c.due("stop(1, 0) at " + d[0], y.stop(1, 0), 5000);
            c.due("state()", y.state(), 0);
        }
        ChargeTalk x = Checks.inPhase(7, false, 5000, 0);
        x.message(7, 900, 0);
        x.message(7, 80, 0);
        x.message(8, 3000, 0);
        c.due("stop(0, 0) after the last of two", x.stop(0, 0), 8000);
    }

    private static void thisTalkAlone(Checks c) {
        ChargeTalk x = Checks.inPhase(7, false, 5000, 0);
        x.message(7, 900, 0);
        x.lost(0);
        Checks.lead(x, 7, false, 5000, 0);
        c.due("stop(0, 0) before a message 7 of this TALK", x.stop(0, 0), 5000);
    }

    private static void refusals(Checks c) {
        ChargeTalk x = Checks.inPhase(7, false, 5000, 100);
        long[][] wrong = {{-1, 200, -1}, {2, 200, -1}, {2, 0, -1}, {Integer.MAX_VALUE, 200, -1}, {0, 99, -2},
            {1, 99, -2}, {0, TIME_MOST + 1, -2}, {0, Long.MIN_VALUE, -2}, {1, Long.MAX_VALUE, -2}};
        for (long[] w : wrong) {
            c.due("stop(" + w[0] + ", " + w[1] + ")", x.stop((int) w[0], w[1]), w[2]);
            c.due("state()", x.state(), 7);
        }
        c.due("stop(0, 100): no refusal told a time", x.stop(0, 100), 5000);
        c.due("stop(0, 99) in PHASE 8: -2 comes first", x.stop(0, 99), -2);
        for (int phase = 0; phase <= 8; phase++) {
            if (phase != 7) {
                ChargeTalk y = Checks.inPhase(phase, true, 50, 0);
                c.due("stop(0, 900) in PHASE " + phase, y.stop(0, 900), -3);
                c.due("stop(1, 900) in PHASE " + phase, y.stop(1, 900), -3);
                c.due("state()", y.state(), phase);
                c.due("lost(0): the refusals told no time", y.lost(0), phase);
            }
        }
        ChargeTalk z = Checks.inPhase(7, false, 5000, 0);
        c.due("stop(0, 2^50): no stop is too late", z.stop(0, TIME_MOST), 5000);
        c.due("lost(2^50 - 1): the stop told its time", z.lost(TIME_MOST - 1), -2);
    }
}
