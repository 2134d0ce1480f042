/** What an object may be used for: 512 calls, of which the last one is answered like the first. */
public final class LastCallTest {
    private static final int CALLS = 512;

    public static void main(String[] args) {
        Checks c = new Checks();
        mostEnergy(c);
        manyPlans(c);
        manyTalks(c);
        c.end();
    }

    private static void mostEnergy(Checks c) {
        c.sentence("at most 512 calls: the most ENERGY that they can bring");
        ChargeTalk x = new ChargeTalk();
        x.pilot(50, 9);
        x.plug(true);
        x.message(0, 0, 0);
        x.message(1, 0, 0);
        x.message(2, 1, 0);
        x.message(3, 5000, 0);
        x.message(6, 0, 0);
        int messages = CALLS - 8;
        for (int i = 1; i <= messages; i++) {
            c.due("message 7 number " + i, x.message(7, 5000, 5000L * i), 7);
        }
        c.due("meter(0), call 512", x.meter(0), -(25000000L * messages / 36000));
    }

    private static void manyPlans(Checks c) {
        c.sentence("at most 512 calls: PLAN after PLAN");
        ChargeTalk x = new ChargeTalk();
        x.pilot(970, 9);
        x.price(0, 1440, 1000);
        for (int i = 3; i < CALLS; i++) {
            c.due("plan(1000000, 1440), call " + i, x.plan(1000000, 1440), 1000000000);
        }
        c.due("planned(1249), call 512", x.planned(1249), 800);
    }

    private static void manyTalks(Checks c) {
        c.sentence("at most 512 calls: TALK after TALK");
        ChargeTalk x = Checks.ready();
        for (int call = 3; call <= CALLS; call += 2) {
            c.due("message(0, 0, " + call + ")", x.message(0, 0, call), 1);
            c.due("lost(" + call + ")", x.lost(call), 1);
        }
    }
}
