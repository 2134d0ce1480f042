/** Promise 1: a new object. */
public final class NewObjectTest {
    public static void main(String[] args) {
        Checks c = new Checks();
        ChargeTalk x = new ChargeTalk();
        c.due("state()", x.state(), 0);
        c.due("allowed()", x.allowed(), 0);
        c.due("short0() without a PLAN", x.short0(), 0);
        for (int t = 0; t < 1440; t++) {
            c.due("planned(" + t + ") without a PLAN", x.planned(t), 0);
        }
        c.due("meter(0)", x.meter(0), 0);
        c.due("share(1, 1, 0) without a car", Checks.shareOf(x, 1, 1, 0), -1);
        c.due("plug(false), it is open", x.plug(false), 0);
        noPrices(c);
        apart(c);
        c.end();
    }

    private static void noPrices(Checks c) {
        ChargeTalk x = new ChargeTalk();
        x.pilot(500, 6);
        c.due("plan(1, 1440) without prices", x.plan(1, 1440), -1);
        c.due("short0()", x.short0(), 1);
        c.due("the first price", x.price(0, 1, 0), 1);
        c.due("the first car", x.car(1), 1);
    }

    private static void apart(Checks c) {
        ChargeTalk x = Checks.inPhase(7, true, 100, 10);
        x.price(0, 1440, 1);
        x.car(5);
        ChargeTalk y = new ChargeTalk();
        c.due("state() of another object", y.state(), 0);
        c.due("price of another object", y.price(0, 1, 1), 1);
        c.due("car of another object", y.car(1), 1);
        c.due("lost(0) of another object", y.lost(0), 0);
    }
}
