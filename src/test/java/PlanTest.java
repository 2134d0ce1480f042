/** A PLAN, and promises 7, 8 and 10: plan, short0 and planned. */
public final class PlanTest {
    private static final long TWO_32 = 1L << 32;

    public static void main(String[] args) {
        Checks c = new Checks();
        until(c);
        withAPrice(c);
        mostInAMinute(c);
        nothingAllowed(c);
        cheapest(c);
        earlier(c);
        enough(c);
        largest(c);
        notEnough(c);
        allThereIs(c);
        wishOutside(c);
        untilOutside(c);
        lacks(c);
        lastPlan(c);
        plannedMinutes(c);
        noPlan(c);
        c.end();
    }

    /** A new object whose PILOT ALLOWS 60. */
    private static ChargeTalk sixty() {
        ChargeTalk x = new ChargeTalk();
        x.pilot(100, 6);
        return x;
    }

    private static void plan(Checks c, ChargeTalk x, long wish, long until, long want) {
        c.due("plan(" + wish + ", " + until + ")", x.plan(wish, until), want);
    }

    private static void units(Checks c, ChargeTalk x, int from, long... want) {
        for (int i = 0; i < want.length; i++) {
            c.due("planned(" + (from + i) + ")", x.planned(from + i), want[i]);
        }
    }

    private static void until(Checks c) {
        c.sentence("each minute from 0 on before that");
        ChargeTalk x = sixty();
        x.price(0, 1440, 1);
        plan(c, x, 0, 0, 0);
        plan(c, x, 1, 0, -1);
        units(c, x, 0, 0, 0);
        plan(c, x, 60, 1, 60);
        plan(c, x, 61, 1, -1);
        units(c, x, 0, 60, 0);
        plan(c, x, 60 * 1439, 1439, 60 * 1439);
        plan(c, x, 60 * 1439 + 1, 1439, -1);
        units(c, x, 1438, 60, 0);
        plan(c, x, 60 * 1440, 1440, 60 * 1440);
        units(c, x, 1438, 60, 60);
        plan(c, x, 60 * 1440 + 1, 1440, -1);
    }

    private static void withAPrice(Checks c) {
        c.sentence("with a price");
        ChargeTalk x = sixty();
        plan(c, x, 1, 1440, -1);
        x.price(3, 4, 0);
        x.price(5, 6, 1000);
        plan(c, x, 120, 1440, 60000);
        units(c, x, 0, 0, 0, 0, 60, 0, 60, 0);
        plan(c, x, 121, 1440, -1);
        plan(c, x, 61, 5, -1);
    }

    private static void mostInAMinute(Checks c) {
        c.sentence("takes at most as many as the PILOT ALLOWS");
        long[][] pilots = {{80, 60}, {102, 61}, {850, 510}, {851, 527}, {970, 800}};
        for (long[] p : pilots) {
            ChargeTalk x = new ChargeTalk();
            x.pilot(p[0], 3);
            x.price(0, 2, 1);
            plan(c, x, p[1], 2, p[1]);
            units(c, x, 0, p[1], 0);
            plan(c, x, p[1] + 1, 2, p[1] + 1);
            units(c, x, 0, p[1], 1);
            plan(c, x, 2 * p[1], 2, 2 * p[1]);
            plan(c, x, 2 * p[1] + 1, 2, -1);
        }
    }

    private static void nothingAllowed(Checks c) {
        c.sentence("takes at most as many as the PILOT ALLOWS: 0");
        long[][] pilots = {{79, 6}, {971, 6}, {50, 6}, {500, 12}, {500, 0}, {500, -12}, {500, 5}, {1001, 6}, {-1, 6}};
        for (long[] p : pilots) {
            ChargeTalk x = sixty();
            x.price(0, 1440, 1);
            x.pilot(p[0], p[1]);
            plan(c, x, 0, 1440, 0);
            plan(c, x, 1, 1440, -1);
            c.due("short0()", x.short0(), 1);
            units(c, x, 0, 0, 0, 0);
        }
    }

    private static void cheapest(Checks c) {
        c.sentence("the cheapest ones as much as they can");
        ChargeTalk x = sixty();
        x.price(0, 10, 30);
        x.price(5, 8, 10);
        x.price(9, 10, 29);
        plan(c, x, 100, 10, 1000);
        units(c, x, 0, 0, 0, 0, 0, 0, 60, 40, 0, 0, 0);
        plan(c, x, 180, 10, 1800);
        units(c, x, 0, 0, 0, 0, 0, 0, 60, 60, 60, 0, 0);
        plan(c, x, 181, 10, 1829);
        units(c, x, 0, 0, 0, 0, 0, 0, 60, 60, 60, 0, 1);
        plan(c, x, 241, 10, 1800 + 60 * 29 + 30);
        units(c, x, 0, 1, 0, 0, 0, 0, 60, 60, 60, 0, 60);
        // The cheap minutes from 6 on are not before 6.
        plan(c, x, 100, 6, 600 + 1200);
        units(c, x, 0, 40, 0, 0, 0, 0, 60, 0, 0, 0, 0);
    }

    private static void earlier(Checks c) {
        c.sentence("of one price the earlier ones");
        ChargeTalk x = sixty();
        x.price(8, 10, 5);
        x.price(2, 4, 5);
        plan(c, x, 1, 1440, 5);
        units(c, x, 0, 0, 0, 1, 0, 0, 0, 0, 0, 0, 0);
        plan(c, x, 61, 1440, 305);
        units(c, x, 0, 0, 0, 60, 1, 0, 0, 0, 0, 0, 0);
        plan(c, x, 130, 1440, 650);
        units(c, x, 0, 0, 0, 60, 60, 0, 0, 0, 0, 10, 0);
    }

    private static void enough(Checks c) {
        c.sentence("until there are enough");
        ChargeTalk x = sixty();
        x.price(0, 3, 2);
        plan(c, x, 0, 3, 0);
        units(c, x, 0, 0, 0, 0, 0);
        plan(c, x, 59, 3, 118);
        units(c, x, 0, 59, 0, 0, 0);
        plan(c, x, 60, 3, 120);
        units(c, x, 0, 60, 0, 0, 0);
        plan(c, x, 61, 3, 122);
        units(c, x, 0, 60, 1, 0, 0);
        plan(c, x, 180, 3, 360);
        units(c, x, 0, 60, 60, 60, 0);
    }

    private static void largest(Checks c) {
        c.sentence("what it costs: at most 1000000 units at 1000 cents");
        ChargeTalk x = new ChargeTalk();
        x.pilot(970, 3);
        x.price(0, 1440, 1000);
        plan(c, x, 1000000, 1440, 1000000000);
        units(c, x, 1248, 800, 800, 0, 0);
        plan(c, x, 1000000, 1250, 1000000000);
        plan(c, x, 1000000, 1249, -1);
        c.due("short0()", x.short0(), 800);
    }

    private static void notEnough(Checks c) {
        c.sentence("-1 if that is not enough");
        ChargeTalk x = sixty();
        x.price(1, 3, 1000);
        x.price(4, 5, 0);
        plan(c, x, 179, 5, 119000);
        plan(c, x, 180, 5, 120000);
        plan(c, x, 181, 5, -1);
        plan(c, x, 1000000, 5, -1);
        plan(c, x, 60, 2, 60000);
        plan(c, x, 61, 2, -1);
        plan(c, x, 0, 0, 0);
        plan(c, x, 1, 0, -1);
    }

    private static void allThereIs(Checks c) {
        c.sentence("(then it is all that there is)");
        ChargeTalk x = sixty();
        x.price(1, 3, 1000);
        x.price(4, 5, 0);
        plan(c, x, 181, 5, -1);
        units(c, x, 0, 0, 60, 60, 0, 60, 0);
        plan(c, x, 1000000, 4, -1);
        units(c, x, 0, 0, 60, 60, 0, 0, 0);
        plan(c, x, 7, 1, -1);
        units(c, x, 0, 0, 0, 0, 0, 0, 0);
    }

    private static void wishOutside(Checks c) {
        c.sentence("-2 wish is not 0 .. 1000000");
        ChargeTalk x = new ChargeTalk();
        x.pilot(970, 6);
        x.price(0, 1440, 1);
        plan(c, x, -1, 1440, -2);
        plan(c, x, 0, 1440, 0);
        plan(c, x, 1, 1440, 1);
        plan(c, x, 999999, 1440, 999999);
        plan(c, x, 1000000, 1440, 1000000);
        plan(c, x, 1000001, 1440, -2);
        plan(c, x, TWO_32, 1440, -2);
        plan(c, x, TWO_32 + 1, 1440, -2);
        plan(c, x, Long.MIN_VALUE, 1440, -2);
        plan(c, x, Long.MAX_VALUE, 1440, -2);
    }

    private static void untilOutside(Checks c) {
        c.sentence("-2 until is not 0 .. 1440");
        ChargeTalk x = sixty();
        x.price(0, 1440, 1);
        plan(c, x, 0, -1, -2);
        plan(c, x, 0, 0, 0);
        plan(c, x, 5, 1, 5);
        plan(c, x, 5, 1439, 5);
        plan(c, x, 5, 1440, 5);
        plan(c, x, 5, 1441, -2);
        plan(c, x, 5, TWO_32, -2);
        plan(c, x, 5, TWO_32 + 1, -2);
        plan(c, x, 5, Long.MIN_VALUE, -2);
        plan(c, x, 5, Long.MAX_VALUE, -2);
    }

    private static void lacks(Checks c) {
        c.sentence("How many units the last PLAN lacks");
        ChargeTalk x = sixty();
        c.due("short0() without a PLAN", x.short0(), 0);
        x.price(0, 2, 1);
        long[][] due = {{119, 0}, {120, 0}, {121, 1}, {122, 2}, {1000000, 999880}, {0, 0}};
        for (long[] d : due) {
            x.plan(d[0], 2);
            c.due("short0() after plan(" + d[0] + ", 2)", x.short0(), d[1]);
        }
        x.plan(1000000, 0);
        c.due("short0() after plan(1000000, 0)", x.short0(), 1000000);
    }

    private static void lastPlan(Checks c) {
        c.sentence("the last PLAN: a refused one and what comes after it leave it as it is");
        ChargeTalk x = sixty();
        x.price(0, 2, 1);
        x.plan(130, 2);
        x.plan(-1, 2);
        x.plan(1000001, 2);
        x.plan(5, -1);
        x.plan(5, 1441);
        x.pilot(0, 12);
        x.price(0, 1440, 3);
        x.lost(0);
        c.due("short0()", x.short0(), 10);
        units(c, x, 0, 60, 60, 0);
        // A new PLAN leaves nothing of the last one.
        plan(c, x, 0, 0, 0);
        c.due("short0()", x.short0(), 0);
        units(c, x, 0, 0, 0, 0);
    }

    private static void plannedMinutes(Checks c) {
        c.sentence("How many units the last PLAN has in a minute");
        ChargeTalk x = sixty();
        x.price(0, 1440, 1);
        x.plan(1000000, 1440);
        c.due("planned(-1)", x.planned(-1), 0);
        c.due("planned(0)", x.planned(0), 60);
        c.due("planned(1)", x.planned(1), 60);
        c.due("planned(1438)", x.planned(1438), 60);
        c.due("planned(1439)", x.planned(1439), 60);
        c.due("planned(1440)", x.planned(1440), 0);
        for (long t : new long[] {TWO_32, TWO_32 + 5, -TWO_32, Long.MIN_VALUE, Long.MAX_VALUE}) {
            c.due("planned(" + t + ")", x.planned(t), 0);
        }
    }

    private static void noPlan(Checks c) {
        c.sentence("0 if there is none");
        ChargeTalk x = sixty();
        x.price(0, 1440, 1);
        for (long t : new long[] {Long.MIN_VALUE, -1, 0, 1, 1438, 1439, 1440, Long.MAX_VALUE}) {
            c.due("planned(" + t + ") without a PLAN", x.planned(t), 0);
        }
    }
}
