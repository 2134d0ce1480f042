/** THE TALK: what each message asks for and where it leads. */
public final class TalkTest {
    private static final int[] NONE = {};

    public static void main(String[] args) {
        Checks c = new Checks();
        wholeTalks(c);
        begin(c);
        beginAsksForAll(c);
        current(c);
        direct(c);
        agreed(c);
        limit(c);
        limitIsKept(c);
        isolation(c);
        isolationAsksForDirect(c);
        precharge(c);
        start(c);
        charge(c);
        energy(c);
        energyOfSevenAlone(c);
        newLimit(c);
        newLimitFromNowOn(c);
        finish(c);
        farewell(c);
        c.end();
    }

    private static void step(Checks c, ChargeTalk x, int kind, long v, long t, long want) {
        c.due("message(" + kind + ", " + v + ", " + t + ")", x.message(kind, v, t), want);
        c.due("state() after it", x.state(), Math.max(want, 0));
    }

    /** One message on a new object in a PHASE, with a LIMIT of 77. */
    private static void one(Checks c, int phase, boolean direct, int kind, long v, long want) {
        ChargeTalk x = Checks.inPhase(phase, direct, 77, 0);
        String where = " in PHASE " + phase + (direct ? ", direct" : ", not direct");
        c.due("message(" + kind + ", " + v + ", 0)" + where, x.message(kind, v, 0), want);
        c.due("state() after it", x.state(), Math.max(want, 0));
    }

    /** A message with a good number is in order in these PHASES, and in no other. */
    private static void onlyIn(Checks c, int kind, int next, int[] ifDirect, int[] ifNot) {
        for (int phase = 0; phase <= 8; phase++) {
            long good = Checks.goodNumber(kind);
            one(c, phase, true, kind, good, holds(ifDirect, phase) ? next : -3);
            if (Checks.hasPhase(phase, false)) {
                one(c, phase, false, kind, good, holds(ifNot, phase) ? next : -3);
            }
        }
    }

    private static boolean holds(int[] phases, int phase) {
        for (int p : phases) {
            if (p == phase) {
                return true;
            }
        }
        return false;
    }

    private static int[] just(int... phases) {
        return phases;
    }

    private static void wholeTalks(Checks c) {
        c.sentence("in order is, and then the PHASE is");
        ChargeTalk x = Checks.ready();
        long[][] direct = {{0, 9, 1}, {1, 1, 2}, {2, 1, 3}, {3, 300, 4}, {4, 100, 5}, {5, 379, 5},
            {5, 421, 5}, {5, 380, 6}, {6, -7, 7}, {7, 300, 7}, {8, 20, 7}, {7, 20, 7}, {9, 3, 8}, {10, 3, 0}};
        for (long[] s : direct) {
            step(c, x, (int) s[0], s[1], 5, s[2]);
        }
        long[][] alternating = {{0, 0, 1}, {1, 0, 2}, {2, 1, 3}, {3, 5000, 4}, {6, 0, 7}, {7, 0, 7},
            {9, 0, 8}, {10, 0, 0}};
        for (long[] s : alternating) {
            step(c, x, (int) s[0], s[1], 6, s[2]);
        }
    }

    private static void begin(Checks c) {
        c.sentence("0: in PHASE 0: 1");
        onlyIn(c, 0, 1, just(0), just(0));
        one(c, 0, true, 0, 1000000, 1);
        one(c, 0, true, 0, -1000000, 1);
    }

    private static void beginAsksForAll(Checks c) {
        c.sentence("0: DIGITAL, the plug is locked");
        for (int i = 0; i < 4; i++) {
            ChargeTalk x = new ChargeTalk();
            x.pilot((i & 1) == 0 ? 71 : 70, 9);
            x.plug((i & 2) != 0);
            step(c, x, 0, 0, 0, i == 3 ? 1 : -3);
        }
        // What was locked once and then opened is open.
        ChargeTalk x = Checks.ready();
        x.plug(false);
        step(c, x, 0, 0, 0, -3);
        // DIGITAL is asked for at message 0 alone.
        ChargeTalk y = Checks.inPhase(1, true, 77, 0);
        y.pilot(500, 9);
        step(c, y, 1, 0, 0, 2);
    }

    private static void current(Checks c) {
        c.sentence("1: in 1, v is 0 or 1: 2");
        onlyIn(c, 1, 2, just(1), just(1));
        long[][] due = {{-1000000, -3}, {-1, -3}, {0, 2}, {1, 2}, {2, -3}, {1000000, -3}};
        for (long[] d : due) {
            one(c, 1, true, 1, d[0], d[1]);
        }
    }

    private static void direct(Checks c) {
        c.sentence("the current is direct if v is 1");
        one(c, 4, true, 4, 100, 5);
        one(c, 4, true, 6, 0, -3);
        one(c, 4, false, 4, 100, -3);
        one(c, 4, false, 6, 0, 7);
        // It is that of this TALK, not of the one before.
        ChargeTalk x = Checks.inPhase(4, true, 77, 0);
        x.lost(0);
        Checks.lead(x, 4, false, 77, 0);
        step(c, x, 6, 0, 0, 7);
        x.lost(0);
        Checks.lead(x, 4, true, 77, 0);
        step(c, x, 4, 100, 0, 5);
    }

    private static void agreed(Checks c) {
        c.sentence("2: in 2, v is 1: 3");
        onlyIn(c, 2, 3, just(2), just(2));
        long[][] due = {{-1, -3}, {0, -3}, {1, 3}, {2, -3}};
        for (long[] d : due) {
            one(c, 2, true, 2, d[0], d[1]);
        }
    }

    private static void limit(Checks c) {
        c.sentence("3: in 3, v is 1 .. 5000: 4");
        onlyIn(c, 3, 4, just(3), just(3));
        long[][] due = {{-1, -3}, {0, -3}, {1, 4}, {2, 4}, {4999, 4}, {5000, 4}, {5001, -3}};
        for (long[] d : due) {
            one(c, 3, true, 3, d[0], d[1]);
        }
    }

    private static void limitIsKept(Checks c) {
        c.sentence("3: v, the LIMIT");
        for (long limit : new long[] {1, 2, 4999, 5000}) {
            for (long v : new long[] {limit, limit + 1}) {
                ChargeTalk x = Checks.inPhase(7, false, limit, 0);
                step(c, x, 7, v, 0, v > limit ? -3 : 7);
            }
        }
        // It is that of this TALK, not of the one before.
        ChargeTalk x = Checks.inPhase(7, false, 50, 0);
        step(c, x, 8, 4000, 0, 7);
        x.lost(0);
        Checks.lead(x, 7, false, 60, 0);
        step(c, x, 7, 60, 0, 7);
        step(c, x, 7, 61, 0, -3);
    }

    private static void isolation(Checks c) {
        c.sentence("4: in 4, v is 100 or more: 5");
        onlyIn(c, 4, 5, just(4), NONE);
        long[][] due = {{-1000000, -3}, {-100, -3}, {0, -3}, {99, -3}, {100, 5}, {101, 5}, {1000000, 5}};
        for (long[] d : due) {
            one(c, 4, true, 4, d[0], d[1]);
        }
    }

    private static void isolationAsksForDirect(Checks c) {
        c.sentence("4: direct");
        one(c, 4, false, 4, 100, -3);
        one(c, 4, false, 4, 1000000, -3);
    }

    private static void precharge(Checks c) {
        c.sentence("5: in 5: 6 if v is 380 .. 420, otherwise 5 yet");
        onlyIn(c, 5, 6, just(5), NONE);
        long[][] due = {{-1000000, 5}, {-380, 5}, {0, 5}, {379, 5}, {380, 6}, {381, 6}, {419, 6}, {420, 6},
            {421, 5}, {1000000, 5}};
        for (long[] d : due) {
            one(c, 5, true, 5, d[0], d[1]);
        }
        ChargeTalk x = Checks.inPhase(5, true, 77, 0);
        for (int i = 0; i < 100; i++) {
            step(c, x, 5, 379, i * 5000L, 5);
        }
        step(c, x, 5, 380, 500000, 6);
    }

    private static void start(Checks c) {
        c.sentence("6: in 4, not direct, or in 6: 7");
        onlyIn(c, 6, 7, just(6), just(4));
        for (long v : new long[] {-1000000, -1, 1, 1000000}) {
            one(c, 6, true, 6, v, 7);
            one(c, 4, false, 6, v, 7);
        }
    }

    private static void charge(Checks c) {
        c.sentence("7: in 7, v is 0 .. LIMIT: 7 yet");
        onlyIn(c, 7, 7, just(7), just(7));
        long[][] due = {{-1000000, -3}, {-1, -3}, {0, 7}, {1, 7}, {76, 7}, {77, 7}, {78, -3}, {1000000, -3}};
        for (long[] d : due) {
            one(c, 7, true, 7, d[0], d[1]);
            one(c, 7, false, 7, d[0], d[1]);
        }
    }

    private static void energy(Checks c) {
        c.sentence("the ENERGY is v times the time since the message before more");
        ChargeTalk x = Checks.inPhase(7, false, 5000, 100);
        step(c, x, 7, 5000, 100, 7);
        c.due("meter(0) after no time", x.meter(0), 0);
        step(c, x, 7, 0, 3700, 7);
        c.due("meter(0) after v 0", x.meter(0), 0);
        step(c, x, 7, 10, 7300, 7);
        c.due("meter(0) after 10 times 3600", x.meter(0), -1);
        // The message before may be of any kind: here the time since message 8 counts, not since message 7.
        step(c, x, 8, 3600, 9000, 7);
        step(c, x, 7, 3600, 9010, 7);
        c.due("meter(0) after 3600 times 10", x.meter(0), -2);
        // And the first message 7 counts from message 6.
        ChargeTalk y = Checks.inPhase(4, false, 5000, 0);
        step(c, y, 6, 0, 1000, 7);
        step(c, y, 7, 36, 2000, 7);
        c.due("meter(0) after 36 times 1000", y.meter(0), -1);
    }

    private static void energyOfSevenAlone(Checks c) {
        c.sentence("7: the ENERGY is more; by no other message");
        long[][] direct = {{0, 1000000}, {1, 1}, {2, 1}, {3, 5000}, {4, 1000000}, {5, 1000000}, {5, -1000000},
            {5, 400}, {6, 1000000}, {8, 5000}, {9, 1000000}, {10, 1000000}};
        long[][] alternating = {{0, -1000000}, {1, 0}, {2, 1}, {3, 5000}, {6, -1000000}, {8, 5000}, {9, -1000000},
            {10, -1000000}};
        for (long[][] talk : new long[][][] {direct, alternating}) {
            ChargeTalk x = Checks.ready();
            long t = 0;
            for (long[] s : talk) {
                t += 5000;
                c.holds("message " + s[0] + " is in order", x.message((int) s[0], s[1], t) >= 0);
                c.due("meter(0) after message(" + s[0] + ", " + s[1] + ", " + t + ")", x.meter(0), 0);
            }
        }
    }

    private static void newLimit(Checks c) {
        c.sentence("8: in 7, v is 1 .. 5000: 7 yet");
        onlyIn(c, 8, 7, just(7), just(7));
        long[][] due = {{-1, -3}, {0, -3}, {1, 7}, {2, 7}, {4999, 7}, {5000, 7}, {5001, -3}};
        for (long[] d : due) {
            one(c, 7, true, 8, d[0], d[1]);
        }
    }

    private static void newLimitFromNowOn(Checks c) {
        c.sentence("8: the LIMIT from now on");
        for (long limit : new long[] {1, 49, 50, 51, 5000}) {
            for (long v : new long[] {limit, limit + 1}) {
                ChargeTalk x = Checks.inPhase(7, false, 50, 0);
                step(c, x, 7, 50, 0, 7);
                step(c, x, 8, limit, 0, 7);
                step(c, x, 7, v, 0, v > limit ? -3 : 7);
            }
        }
    }

    private static void finish(Checks c) {
        c.sentence("9: in 7: 8");
        onlyIn(c, 9, 8, just(7), just(7));
        one(c, 7, true, 9, 1000000, 8);
        one(c, 7, false, 9, -1000000, 8);
    }

    private static void farewell(Checks c) {
        c.sentence("10: in 8: 0");
        onlyIn(c, 10, 0, just(8), just(8));
        one(c, 8, true, 10, 1000000, 0);
        one(c, 8, false, 10, -1000000, 0);
        ChargeTalk x = Checks.inPhase(7, false, 50, 0);
        x.stop(0, 0);
        step(c, x, 10, 0, 0, 0);
        // The TALK is over, so a second farewell is not in order, and a new TALK may begin.
        step(c, x, 10, 0, 0, -3);
        step(c, x, 0, 0, 0, 1);
    }
}
