/** Promise 14: lost. */
public final class LostTest {
    private static final long TIME_MOST = 1L << 50;

    public static void main(String[] args) {
        Checks c = new Checks();
        for (int phase = 0; phase <= 8; phase++) {
            ChargeTalk x = Checks.inPhase(phase, true, 50, 100);
            long least = phase == 0 ? Long.MIN_VALUE : 100;
            if (phase != 0) {
                c.due("lost(99) in PHASE " + phase, x.lost(99), -2);
                c.due("lost(the least) in PHASE " + phase, x.lost(Long.MIN_VALUE), -2);
            }
            c.due("lost(2^50 + 1) in PHASE " + phase, x.lost(TIME_MOST + 1), -2);
            c.due("lost(the most) in PHASE " + phase, x.lost(Long.MAX_VALUE), -2);
            c.due("state()", x.state(), phase);
            c.due("lost(" + least + ") in PHASE " + phase, x.lost(least), phase);
            c.due("state()", x.state(), 0);
            c.due("lost again", x.lost(TIME_MOST), 0);
            c.due("lost told its time", x.lost(TIME_MOST - 1), -2);
            c.due("message(0, 0, 2^50) after it", x.message(0, 0, TIME_MOST), 1);
        }
        c.end();
    }
}
