/** Promises 2 and 4: pilot and allowed. */
public final class PilotTest {
    public static void main(String[] args) {
        Checks c = new Checks();
        levels(c);
        allowedByShare(c);
        wideArguments(c);
        endOfTalk(c);
        digital(c);
        c.end();
    }

    private static void levels(Checks c) {
        ChargeTalk x = new ChargeTalk();
        for (long volt = -20; volt <= 20; volt++) {
            long want = volt == 12 ? 0 : volt == 9 ? 1 : volt == 6 ? 2 : volt == 3 ? 3
                : volt == 0 ? 4 : volt == -12 ? 5 : 6;
            c.due("pilot(500, " + volt + ")", x.pilot(500, volt), want);
            c.due("allowed()", x.allowed(), want >= 1 && want <= 3 ? 300 : 0);
            c.due("pilot(0, " + volt + ")", x.pilot(0, volt), want);
            c.due("pilot(1000, " + volt + ")", x.pilot(1000, volt), want);
            c.due("pilot(-1, " + volt + ")", x.pilot(-1, volt), 6);
            c.due("allowed()", x.allowed(), 0);
            c.due("pilot(1001, " + volt + ")", x.pilot(1001, volt), 6);
            c.due("allowed()", x.allowed(), 0);
        }
    }

    private static void allowedByShare(Checks c) {
        long[][] due = {{0, 0}, {30, 0}, {70, 0}, {79, 0}, {80, 60}, {99, 60}, {100, 60}, {101, 60},
            {102, 61}, {104, 62}, {105, 63}, {109, 65}, {849, 509}, {850, 510}, {851, 527}, {852, 530},
            {853, 532}, {959, 797}, {960, 800}, {961, 800}, {970, 800}, {971, 0}, {1000, 0}};
        ChargeTalk x = new ChargeTalk();
        for (long[] d : due) {
            for (long volt : new long[] {9, 6, 3}) {
                x.pilot(d[0], volt);
                c.due("allowed() at " + d[0] + ", " + volt, x.allowed(), d[1]);
            }
            for (long volt : new long[] {12, 0, -12, 7}) {
                x.pilot(d[0], volt);
                c.due("allowed() at " + d[0] + ", " + volt, x.allowed(), 0);
            }
        }
    }

    private static void wideArguments(Checks c) {
        ChargeTalk x = new ChargeTalk();
        long two32 = 1L << 32;
        c.due("share of 2^32 + 500", x.pilot(two32 + 500, 9), 6);
        c.due("allowed()", x.allowed(), 0);
        c.due("volt of 2^32 + 9", x.pilot(500, two32 + 9), 6);
        c.due("the least share", x.pilot(Long.MIN_VALUE, 9), 6);
        c.due("the most volts", x.pilot(500, Long.MAX_VALUE), 6);
    }

    private static void endOfTalk(Checks c) {
        long[][] pilots = {{50, 12}, {50, 0}, {50, -12}, {50, 5}, {1001, 9}, {-1, 9}};
        for (int phase = 1; phase <= 8; phase++) {
            for (long[] p : pilots) {
                ChargeTalk x = Checks.inPhase(phase, true, 100, 0);
                x.pilot(p[0], p[1]);
                c.due("state() after a pilot that ENDS PHASE " + phase, x.state(), 0);
            }
            ChargeTalk x = Checks.inPhase(phase, true, 100, 0);
            for (long volt : new long[] {9, 6, 3}) {
                x.pilot(900, volt);
                c.due("state() after a pilot that leaves PHASE " + phase, x.state(), phase);
            }
        }
    }

    private static void digital(Checks c) {
        long[][] due = {{29, -3}, {30, 1}, {50, 1}, {70, 1}, {71, -3}};
        for (long[] d : due) {
            for (long volt : new long[] {9, 6, 3}) {
                ChargeTalk x = new ChargeTalk();
                x.plug(true);
                x.pilot(d[0], volt);
                c.due("message(0, 0, 0) at share " + d[0], x.message(0, 0, 0), d[1]);
            }
        }
        ChargeTalk x = new ChargeTalk();
        x.plug(true);
        x.pilot(50, 12);
        c.due("message(0, 0, 0) at 12 volts", x.message(0, 0, 0), -3);
    }
}
