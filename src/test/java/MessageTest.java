/** Promise 3: message, what it refuses. */
public final class MessageTest {
    public static void main(String[] args) {
        Checks c = new Checks();
        kinds(c);
        leastNumber(c);
        mostNumber(c);
        times(c);
        ended(c);
        c.end();
    }

    /** Message 9 takes any number, so in PHASE 7 only the refusals can answer anything but 8. */
    private static void nine(Checks c, long v, long t, long want) {
        ChargeTalk x = Checks.inPhase(7, true, 10, 100);
        c.due("message(9, " + v + ", " + t + ")", x.message(9, v, t), want);
        c.due("state() after it", x.state(), want == 8 ? 8 : want == -2 ? 7 : 0);
    }

    private static void kinds(Checks c) {
        c.sentence("-2 there is no such kind");
        for (int phase = 0; phase <= 8; phase++) {
            ChargeTalk x = Checks.inPhase(phase, true, 10, 0);
            for (int kind : new int[] {-1, 11, 12, -10, Integer.MIN_VALUE, Integer.MAX_VALUE}) {
                c.due("message(" + kind + ", 0, 0) in PHASE " + phase, x.message(kind, 0, 0), -2);
                c.due("state() after it", x.state(), phase);
            }
        }
        c.due("message(0, 0, 0), the least kind", Checks.ready().message(0, 0, 0), 1);
        c.due("message(10, 0, 0), the greatest kind", Checks.inPhase(8, true, 10, 0).message(10, 0, 0), 0);
    }

    private static void leastNumber(Checks c) {
        c.sentence("-2 v is below -1000000");
        nine(c, -999999, 100, 8);
        nine(c, -1000000, 100, 8);
        nine(c, -1000001, 100, -2);
        nine(c, -(1L << 32), 100, -2);
        nine(c, Long.MIN_VALUE, 100, -2);
    }

    private static void mostNumber(Checks c) {
        c.sentence("-2 v is above 1000000");
        nine(c, 999999, 100, 8);
        nine(c, 1000000, 100, 8);
        nine(c, 1000001, 100, -2);
        nine(c, 1L << 32, 100, -2);
        nine(c, Long.MAX_VALUE, 100, -2);
    }

    private static void times(Checks c) {
        c.sentence("-2 or the time");
        nine(c, 0, 99, -2);
        nine(c, 0, 100, 8);
        nine(c, 0, Checks.TIME_MOST, -3);
        nine(c, 0, Checks.TIME_MOST + 1, -2);
        nine(c, 0, Long.MIN_VALUE, -2);
        nine(c, 0, Long.MAX_VALUE, -2);
    }

    private static void ended(Checks c) {
        c.sentence("-3 it is not in order, or too late (then the TALK has ENDED; the time was told)");
        ChargeTalk x = Checks.inPhase(3, true, 10, 100);
        c.due("message(3, 0, 700)", x.message(3, 0, 700), -3);
        c.due("state()", x.state(), 0);
        c.due("message(0, 0, 699)", x.message(0, 0, 699), -2);
        c.due("message(0, 0, 700)", x.message(0, 0, 700), 1);
        c.due("message(1, 0, 5701)", x.message(1, 0, 5701), -3);
        c.due("state()", x.state(), 0);
        c.due("message(0, 0, 5700)", x.message(0, 0, 5700), -2);
        c.due("message(0, 0, 5701)", x.message(0, 0, 5701), 1);
        // In PHASE 0 too there is a message that is not in order.
        ChargeTalk y = Checks.ready();
        c.due("message(1, 0, 700)", y.message(1, 0, 700), -3);
        c.due("message(0, 0, 699)", y.message(0, 0, 699), -2);
        c.due("message(0, 0, 700)", y.message(0, 0, 700), 1);
    }
}
