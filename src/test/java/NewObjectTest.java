/** Promise 1: a new object. */
public final class NewObjectTest {
    public static void main(String[] args) {
        Checks c = new Checks();
        noTalk(c);
        noPrices(c);
        noCars(c);
        openPlug(c);
        noPlan(c);
        apart(c);
        c.end();
    }

    private static void noTalk(Checks c) {
        c.sentence("THE TALK has a PHASE, 0 without one");
        ChargeTalk x = new ChargeTalk();
        c.due("state()", x.state(), 0);
        c.due("allowed()", x.allowed(), 0);
        c.due("meter(0)", x.meter(0), 0);
        c.due("lost(0)", x.lost(0), 0);
        c.due("stop(0, 0)", x.stop(0, 0), -3);
    }

    private static void noPrices(Checks c) {
        c.sentence("No prices");
        ChargeTalk x = new ChargeTalk();
        x.pilot(500, 6);
        c.due("plan(1, 1440)", x.plan(1, 1440), -1);
        c.due("short0()", x.short0(), 1);
        c.due("the first price", x.price(0, 1, 0), 1);
    }

    private static void noCars(Checks c) {
        c.sentence("no cars");
        ChargeTalk x = new ChargeTalk();
        for (int car = -1; car <= 11; car++) {
            c.due("share(" + car + ", 1, 0)", Checks.shareOf(x, car, 1, 0), -1);
        }
        c.due("the first car", x.car(1), 1);
    }

    private static void openPlug(Checks c) {
        c.sentence("an open plug");
        c.due("plug(false)", new ChargeTalk().plug(false), 0);
        c.due("plug(true)", new ChargeTalk().plug(true), 1);
        ChargeTalk x = new ChargeTalk();
        x.pilot(50, 9);
        c.due("message(0, 0, 0)", x.message(0, 0, 0), -3);
    }

    private static void noPlan(Checks c) {
        c.sentence("no PLAN");
        ChargeTalk x = new ChargeTalk();
        c.due("short0()", x.short0(), 0);
        for (int t = -1; t <= 1440; t++) {
            c.due("planned(" + t + ")", x.planned(t), 0);
        }
    }

    private static void apart(Checks c) {
        c.sentence("A new object knows nothing of another one");
        ChargeTalk x = Checks.inPhase(7, true, 5000, 10);
        x.message(7, 5000, 1000);
        x.pilot(500, 9);
        x.price(0, 1440, 1);
        x.plan(1000000, 1440);
        x.car(5);
        ChargeTalk y = new ChargeTalk();
        c.due("state()", y.state(), 0);
        c.due("allowed()", y.allowed(), 0);
        c.due("meter(0)", y.meter(0), 0);
        c.due("short0()", y.short0(), 0);
        c.due("planned(0)", y.planned(0), 0);
        c.due("plug(false)", y.plug(false), 0);
        c.due("price(0, 1, 1)", y.price(0, 1, 1), 1);
        c.due("car(1)", y.car(1), 1);
        c.due("lost(0)", y.lost(0), 0);
    }
}
