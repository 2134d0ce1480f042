/** THE TALK: what ENDS it, and promise 15: state. */
public final class TalkEndTest {
    public static void main(String[] args) {
        Checks c = new Checks();
        notInOrder(c);
        late(c);
        lateOfThisTalk(c);
        lateBehindAMessage(c);
        pilotEnds(c);
        pilotLeaves(c);
        lossEnds(c);
        afterTheEnd(c);
        state(c);
        c.end();
    }

    /** A number that the rule of this kind does not take, or -1 if it takes all. */
    private static long badNumber(int kind) {
        return new long[] {-1, 2, 0, 0, 99, -1, -1, -1, 0, -1, -1}[kind];
    }

    private static void notInOrder(Checks c) {
        c.sentence("A message that is not in order ENDS the TALK: PHASE 0");
        for (int phase = 1; phase <= 8; phase++) {
            ChargeTalk x = Checks.inPhase(phase, true, 10, 0);
            c.due("message(0, 0, 0) in PHASE " + phase, x.message(0, 0, 0), -3);
            c.due("state() after it", x.state(), 0);
        }
        // The kind that fits the PHASE, but with a number that it does not take.
        int[][] fits = {{1, 1}, {2, 2}, {3, 3}, {4, 4}, {7, 7}, {7, 8}};
        for (int[] f : fits) {
            ChargeTalk x = Checks.inPhase(f[0], true, 10, 0);
            String call = "message(" + f[1] + ", " + badNumber(f[1]) + ", 0) in PHASE " + f[0];
            c.due(call, x.message(f[1], badNumber(f[1]), 0), -3);
            c.due("state() after it", x.state(), 0);
        }
    }

    /** The kind that is in order in a PHASE of a TALK with direct current. */
    private static int kindIn(int phase) {
        return new int[] {0, 1, 2, 3, 4, 5, 6, 7, 10}[phase];
    }

    private static void late(Checks c) {
        c.sentence("or that comes more than 5000 behind the one before");
        int[] next = {1, 2, 3, 4, 5, 6, 7, 7, 0};
        for (int phase = 1; phase <= 8; phase++) {
            int kind = kindIn(phase);
            long v = Checks.goodNumber(kind);
            for (long wait : new long[] {0, 4999, 5000, 5001, 5002, 1000000}) {
                ChargeTalk x = Checks.inPhase(phase, true, 10, 100);
                long want = wait > 5000 ? -3 : next[phase];
                String call = "message(" + kind + ", " + v + ", " + (100 + wait) + ") in PHASE " + phase;
                c.due(call, x.message(kind, v, 100 + wait), want);
                c.due("state() after it", x.state(), Math.max(want, 0));
            }
            ChargeTalk x = Checks.inPhase(phase, true, 10, 100);
            c.due("message at 2^50 in PHASE " + phase, x.message(kind, v, Checks.TIME_MOST), -3);
        }
    }

    private static void lateOfThisTalk(Checks c) {
        c.sentence("the one before (of this TALK)");
        // Without a TALK no message is late, however long ago the last one was.
        ChargeTalk x = Checks.inPhase(8, true, 10, 0);
        c.due("message(10, 0, 10)", x.message(10, 0, 10), 0);
        c.due("message(0, 0, 5011)", x.message(0, 0, 5011), 1);
        c.due("message(1, 2, 5011)", x.message(1, 2, 5011), -3);
        c.due("message(0, 0, 900000)", x.message(0, 0, 900000), 1);
        // The late one ENDS the TALK, and the next one begins a new one with a time of its own.
        c.due("message(1, 0, 905001)", x.message(1, 0, 905001), -3);
        c.due("message(0, 0, 910002)", x.message(0, 0, 910002), 1);
        c.due("message(1, 0, 915002)", x.message(1, 0, 915002), 2);
        x.lost(920000);
        c.due("message(0, 0, 2^50)", x.message(0, 0, Checks.TIME_MOST), 1);
    }

    private static void lateBehindAMessage(Checks c) {
        c.sentence("behind the one before: a message, no stop and no refusal");
        ChargeTalk x = Checks.inPhase(7, true, 77, 0);
        c.due("stop(0, 3000)", x.stop(0, 3000), 5000);
        c.due("message(10, 0, 5001)", x.message(10, 0, 5001), -3);
        ChargeTalk y = Checks.inPhase(7, true, 77, 0);
        c.due("stop(0, 5000)", y.stop(0, 5000), 5000);
        c.due("message(10, 0, 5000)", y.message(10, 0, 5000), 0);
        ChargeTalk z = Checks.inPhase(7, true, 77, 0);
        c.due("message(11, 0, 3000)", z.message(11, 0, 3000), -2);
        c.due("message(7, 1000001, 3000)", z.message(7, 1000001, 3000), -2);
        c.due("message(7, 0, 5001)", z.message(7, 0, 5001), -3);
        // Each message in order starts the 5000 anew.
        ChargeTalk w = Checks.inPhase(5, true, 77, 0);
        c.due("message(5, 1, 4000)", w.message(5, 1, 4000), 5);
        c.due("message(5, 1, 9000)", w.message(5, 1, 9000), 5);
        c.due("message(5, 400, 14001)", w.message(5, 400, 14001), -3);
    }

    private static void pilotEnds(Checks c) {
        c.sentence("So does a PILOT whose STATE is not 1 to 3");
        long[][] pilots = {{50, 12}, {50, 0}, {50, -12}, {50, 5}, {1001, 9}, {-1, 9}};
        for (int phase = 1; phase <= 8; phase++) {
            for (long[] p : pilots) {
                ChargeTalk x = Checks.inPhase(phase, true, 10, 0);
                x.pilot(p[0], p[1]);
                c.due("state() after pilot(" + p[0] + ", " + p[1] + ") in PHASE " + phase, x.state(), 0);
            }
        }
    }

    private static void pilotLeaves(Checks c) {
        c.sentence("a PILOT in STATE 1 to 3 ENDS no TALK, DIGITAL or not");
        for (int phase = 0; phase <= 8; phase++) {
            ChargeTalk x = Checks.inPhase(phase, true, 10, 0);
            for (long volt : new long[] {9, 6, 3}) {
                for (long share : new long[] {0, 29, 30, 70, 71, 500, 1000}) {
                    x.pilot(share, volt);
                    c.due("state() after pilot(" + share + ", " + volt + ")", x.state(), phase);
                }
            }
        }
    }

    private static void lossEnds(Checks c) {
        c.sentence("and the loss of the line");
        for (int phase = 1; phase <= 8; phase++) {
            ChargeTalk x = Checks.inPhase(phase, true, 10, 0);
            c.due("lost(0) in PHASE " + phase, x.lost(0), phase);
            c.due("state() after it", x.state(), 0);
        }
    }

    /** Whatever ENDED a TALK, the next one goes through from its beginning. */
    private static void afterTheEnd(Checks c) {
        c.sentence("ENDS the TALK: PHASE 0, and message 0 is in order there");
        for (int phase = 1; phase <= 8; phase++) {
            ChargeTalk x = Checks.inPhase(phase, true, 10, 0);
            x.message(0, 0, 7000);
            c.due("message(0, 0, 7000) after a late one", x.message(0, 0, 7000), 1);
            x.pilot(50, 12);
            c.due("message(0, 0, 7000) in STATE 0", x.message(0, 0, 7000), -3);
            x.pilot(50, 3);
            c.due("message(0, 0, 7000) in STATE 3 again", x.message(0, 0, 7000), 1);
            x.lost(7000);
            Checks.lead(x, 8, false, 10, 7000);
            c.due("state()", x.state(), 8);
        }
    }

    private static void state(Checks c) {
        c.sentence("state: the PHASE, 0 without a TALK");
        c.due("state() of a new object", new ChargeTalk().state(), 0);
        for (int phase = 0; phase <= 8; phase++) {
            ChargeTalk x = Checks.inPhase(phase, true, 10, 0);
            c.due("state()", x.state(), phase);
            c.due("state() again", x.state(), phase);
        }
    }
}
