/** Promises 3 and 15: message and state. */
public final class MessageTest {
    private static final long TIME_MOST = 1L << 50;

    public static void main(String[] args) {
        Checks c = new Checks();
        wholeTalks(c);
        order(c, true);
        order(c, false);
        values(c);
        outside(c);
        late(c);
        beginning(c);
        limits(c);
        times(c);
        c.end();
    }

    private static void step(Checks c, ChargeTalk x, int kind, long v, long t, long want) {
        c.due("message(" + kind + ", " + v + ", " + t + ")", x.message(kind, v, t), want);
        c.due("state()", x.state(), Math.max(want, 0));
    }

    private static void wholeTalks(Checks c) {
        ChargeTalk x = Checks.ready();
        long[][] direct = {{0, 9, 1}, {1, 1, 2}, {2, 1, 3}, {3, 300, 4}, {4, 100, 5}, {5, 379, 5},
            {5, 421, 5}, {5, 380, 6}, {6, -7, 7}, {7, 300, 7}, {8, 20, 7}, {7, 20, 7}, {9, 3, 8}, {10, 3, 0}};
        for (long[] s : direct) {
            step(c, x, (int) s[0], s[1], 5, s[2]);
        }
        long[][] alternating = {{0, 0, 1}, {1, 0, 2}, {2, 1, 3}, {3, 5000, 4}, {6, 0, 7}, {7, 0, 7},
            {9, 0, 8}, {10, 0, 0}};
        for (long[] s : alternating) {
            step(c, x, (int) s[0], s[1], 6, s[2]);
        }
    }

    /** Every kind in every PHASE, with a number that its rule takes. */
    private static void order(Checks c, boolean direct) {
        long[] good = {0, 1, 1, 10, 100, 400, 0, 10, 10, 0, 0};
        int[][] next = {
            {0, 1, -3, -3, -3, -3, -3, -3, -3, -3, -3}, {1, -3, 2, -3, -3, -3, -3, -3, -3, -3, -3},
            {2, -3, -3, 3, -3, -3, -3, -3, -3, -3, -3}, {3, -3, -3, -3, 4, -3, -3, -3, -3, -3, -3},
            {4, -3, -3, -3, -3, direct ? 5 : -3, -3, direct ? -3 : 7, -3, -3, -3, -3},
            {5, -3, -3, -3, -3, -3, 6, -3, -3, -3, -3}, {6, -3, -3, -3, -3, -3, -3, 7, -3, -3, -3},
            {7, -3, -3, -3, -3, -3, -3, -3, 7, 7, 8}, {8, -3, -3, -3, -3, -3, -3, -3, -3, -3, -3}};
        for (int[] row : next) {
            int phase = row[0];
            if (!direct && (phase == 5 || phase == 6)) {
                continue;
            }
            for (int kind = 0; kind <= 10; kind++) {
                ChargeTalk x = Checks.inPhase(phase, direct, 10, 0);
                long want = kind == 10 ? (phase == 8 ? 0 : -3) : row[kind + 1];
                step(c, x, kind, good[kind], 1, want);
            }
        }
    }

    /** The edges of v: kind, PHASE, v, due. */
    private static void values(Checks c) {
        long[][] due = {{1, 1, -1, -3}, {1, 1, 0, 2}, {1, 1, 1, 2}, {1, 1, 2, -3},
            {2, 2, 0, -3}, {2, 2, 1, 3}, {2, 2, 2, -3},
            {3, 3, 0, -3}, {3, 3, 1, 4}, {3, 3, 5000, 4}, {3, 3, 5001, -3},
            {4, 4, 99, -3}, {4, 4, 100, 5}, {4, 4, 1000000, 5},
            {5, 5, 379, 5}, {5, 5, 380, 6}, {5, 5, 420, 6}, {5, 5, 421, 5}, {5, 5, -1000000, 5},
            {7, 7, -1, -3}, {7, 7, 0, 7}, {7, 7, 77, 7}, {7, 7, 78, -3},
            {8, 7, 0, -3}, {8, 7, 1, 7}, {8, 7, 5000, 7}, {8, 7, 5001, -3},
            {0, 0, 1000000, 1}, {6, 6, -1000000, 7}, {9, 7, 1000000, 8}, {10, 8, -1000000, 0}};
        for (long[] d : due) {
            ChargeTalk x = Checks.inPhase((int) d[1], true, 77, 0);
            step(c, x, (int) d[0], d[2], 1, d[3]);
        }
    }

    /** -2 leaves the TALK as it is, and tells no time. */
    private static void outside(Checks c) {
        ChargeTalk x = Checks.inPhase(7, true, 77, 100);
        long[][] wrong = {{-1, 0, 5000}, {11, 0, 5000}, {Integer.MAX_VALUE, 0, 5000}, {Integer.MIN_VALUE, 0, 5000},
            {7, 1000001, 5000}, {7, -1000001, 5000}, {7, Long.MAX_VALUE, 5000}, {7, Long.MIN_VALUE, 5000},
            {7, 0, 99}, {7, 0, TIME_MOST + 1}, {7, 0, Long.MAX_VALUE}, {7, 0, Long.MIN_VALUE},
            {0, 1000001, 5000}, {9, 0, -1}};
        for (long[] w : wrong) {
            c.due("message(" + w[0] + ", " + w[1] + ", " + w[2] + ")", x.message((int) w[0], w[1], w[2]), -2);
            c.due("state()", x.state(), 7);
        }
        step(c, x, 7, 5, 100, 7);
        ChargeTalk y = Checks.inPhase(7, true, 77, 0);
        step(c, y, 7, -1000000, 0, -3);
    }

    private static void late(Checks c) {
        ChargeTalk x = Checks.ready();
        step(c, x, 0, 0, 10, 1);
        step(c, x, 1, 1, 5010, 2);
        step(c, x, 2, 1, 10011, -3);
        step(c, x, 0, 0, 900000, 1);
        ChargeTalk y = Checks.inPhase(8, true, 77, 0);
        step(c, y, 10, 0, 5001, -3);
        ChargeTalk z = Checks.inPhase(7, true, 77, 0);
        c.due("stop(0, 3000)", z.stop(0, 3000), 5000);
        // A stop is no message: the one before is at 0 yet.
        step(c, z, 10, 0, 5001, -3);
        ChargeTalk w = Checks.inPhase(7, true, 77, 0);
        w.stop(0, 5000);
        step(c, w, 10, 0, 5000, 0);
        ChargeTalk u = Checks.inPhase(5, true, 77, 0);
        step(c, u, 5, 1, 4000, 5);
        step(c, u, 5, 1, 9000, 5);
        step(c, u, 5, 400, 14001, -3);
    }

    private static void beginning(Checks c) {
        ChargeTalk x = new ChargeTalk();
        x.pilot(50, 9);
        step(c, x, 0, 0, 0, -3);
        x.plug(true);
        step(c, x, 0, 0, 0, 1);
        step(c, x, 0, 0, 0, -3);
        x.plug(false);
        step(c, x, 0, 0, 0, -3);
        // DIGITAL matters at message 0 alone.
        ChargeTalk y = Checks.inPhase(1, true, 77, 0);
        y.pilot(500, 9);
        step(c, y, 1, 0, 0, 2);
    }

    private static void limits(Checks c) {
        ChargeTalk x = Checks.inPhase(7, false, 50, 0);
        step(c, x, 8, 60, 0, 7);
        step(c, x, 7, 60, 0, 7);
        step(c, x, 8, 40, 0, 7);
        step(c, x, 7, 41, 0, -3);
        Checks.lead(x, 7, false, 50, 0);
        step(c, x, 7, 50, 0, 7);
        step(c, x, 7, 51, 0, -3);
    }

    private static void times(Checks c) {
        ChargeTalk x = Checks.ready();
        step(c, x, 3, 0, 700, -3);
        c.due("a message that was not in order told its time", x.message(0, 0, 699), -2);
        step(c, x, 0, 0, 700, 1);
        ChargeTalk y = Checks.ready();
        step(c, y, 0, 0, TIME_MOST - 5000, 1);
        step(c, y, 1, 0, TIME_MOST, 2);
        step(c, y, 2, 1, TIME_MOST, 3);
        // No time was told before the first one, so it may be below 0.
        ChargeTalk z = Checks.ready();
        step(c, z, 0, 0, Long.MIN_VALUE, 1);
        step(c, z, 1, 0, Long.MIN_VALUE + 5000, 2);
        step(c, z, 2, 1, TIME_MOST, -3);
    }
}
