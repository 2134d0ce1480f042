/** Promises 7 to 10: plan, short0, price and planned. */
public final class PlanTest {
    public static void main(String[] args) {
        Checks c = new Checks();
        priceRefusals(c);
        priceRoom(c);
        lastSpanCounts(c);
        planRefusals(c);
        cheapestFirst(c);
        earlierOfOnePrice(c);
        notEnough(c);
        planIsKept(c);
        largest(c);
        plannedOutside(c);
        c.end();
    }

    /** A new object whose PILOT ALLOWS 60. */
    private static ChargeTalk sixty() {
        ChargeTalk x = new ChargeTalk();
        x.pilot(100, 6);
        return x;
    }

    private static void units(Checks c, ChargeTalk x, int from, long... want) {
        for (int i = 0; i < want.length; i++) {
            c.due("planned(" + (from + i) + ")", x.planned(from + i), want[i]);
        }
    }

    private static void priceRefusals(Checks c) {
        ChargeTalk x = new ChargeTalk();
        long[][] wrong = {{-1, 5, 1}, {1440, 1441, 1}, {1440, 1440, 1}, {5, 5, 1}, {5, 4, 1}, {5, -1, 1}, {0, 1441, 1},
            {0, 10, -1}, {0, 10, 1001}, {Long.MIN_VALUE, 5, 1}, {Long.MAX_VALUE, Long.MIN_VALUE, 1},
            {0, Long.MAX_VALUE, 1}, {0, 1, Long.MAX_VALUE}, {1L << 32, (1L << 32) + 1, 1}, {0, 1, 1L << 32}};
        for (long[] w : wrong) {
            c.due("price(" + w[0] + ", " + w[1] + ", " + w[2] + ")", x.price(w[0], w[1], w[2]), -2);
        }
        c.due("price(0, 1440, 0)", x.price(0, 1440, 0), 1);
        c.due("price(1439, 1440, 1000)", x.price(1439, 1440, 1000), 2);
    }

    private static void priceRoom(Checks c) {
        ChargeTalk x = sixty();
        for (int i = 1; i <= 20; i++) {
            c.due("price number " + i, x.price(0, 10, i), i);
        }
        c.due("price number 21", x.price(0, 1440, 1), -4);
        c.due("price number 21, outside too", x.price(-1, 1440, 1), -2);
        c.due("plan(1, 1440) at the price of span 20", x.plan(1, 1440), 20);
        c.due("plan(601, 1440): no minute from 10 on has a price", x.plan(601, 1440), -1);
    }

    private static void lastSpanCounts(Checks c) {
        ChargeTalk x = sixty();
        x.price(0, 4, 10);
        x.price(1, 3, 50);
        x.price(2, 3, 0);
        c.due("plan(240, 4)", x.plan(240, 4), 60 * 10 + 60 * 50 + 60 * 10);
        x.price(0, 4, 7);
        c.due("plan(240, 4)", x.plan(240, 4), 240 * 7);
    }

    private static void planRefusals(Checks c) {
        ChargeTalk x = sixty();
        x.price(0, 1440, 1);
        x.plan(200000, 3);
        long[][] wrong = {{-1, 5}, {1000001, 5}, {5, -1}, {5, 1441}, {Long.MIN_VALUE, 5}, {Long.MAX_VALUE, 5},
            {5, Long.MIN_VALUE}, {5, Long.MAX_VALUE}, {1L << 32, 5}, {5, 1L << 32}};
        for (long[] w : wrong) {
            c.due("plan(" + w[0] + ", " + w[1] + ")", x.plan(w[0], w[1]), -2);
            c.due("short0() of the PLAN before", x.short0(), 200000 - 180);
            units(c, x, 0, 60, 60, 60, 0);
        }
    }

    private static void cheapestFirst(Checks c) {
        ChargeTalk x = sixty();
        x.price(0, 10, 30);
        x.price(5, 8, 10);
        c.due("plan(100, 10)", x.plan(100, 10), 1000);
        units(c, x, 0, 0, 0, 0, 0, 0, 60, 40, 0, 0, 0);
        c.due("plan(400, 10)", x.plan(400, 10), 8400);
        units(c, x, 0, 60, 60, 60, 40, 0, 60, 60, 60, 0, 0, 0);
        c.due("plan(100, 6)", x.plan(100, 6), 600 + 1200);
        units(c, x, 0, 40, 0, 0, 0, 0, 60, 0);
        c.due("plan(60, 5)", x.plan(60, 5), 1800);
        units(c, x, 0, 60, 0, 0, 0, 0, 0);
        c.due("plan(0, 10)", x.plan(0, 10), 0);
        c.due("short0()", x.short0(), 0);
        units(c, x, 0, 0, 0, 0, 0, 0, 0, 0);
    }

    private static void earlierOfOnePrice(Checks c) {
        ChargeTalk x = sixty();
        x.price(8, 10, 5);
        x.price(2, 4, 5);
        c.due("plan(130, 1440)", x.plan(130, 1440), 650);
        units(c, x, 0, 0, 0, 60, 60, 0, 0, 0, 0, 10, 0);
        c.due("plan(1, 1440)", x.plan(1, 1440), 5);
        units(c, x, 0, 0, 0, 1, 0, 0, 0, 0, 0, 0, 0);
    }

    private static void notEnough(Checks c) {
        ChargeTalk x = sixty();
        x.price(1, 3, 1000);
        x.price(4, 5, 0);
        c.due("plan(180, 5)", x.plan(180, 5), 120000);
        c.due("short0()", x.short0(), 0);
        c.due("plan(181, 5)", x.plan(181, 5), -1);
        c.due("short0()", x.short0(), 1);
        units(c, x, 0, 0, 60, 60, 0, 60, 0);
        c.due("plan(61, 2)", x.plan(61, 2), -1);
        c.due("short0()", x.short0(), 1);
        units(c, x, 0, 0, 60, 0, 0, 0, 0);
        c.due("plan(7, 0)", x.plan(7, 0), -1);
        c.due("short0()", x.short0(), 7);
        c.due("plan(0, 0)", x.plan(0, 0), 0);
        c.due("short0()", x.short0(), 0);
        x.pilot(50, 6);
        c.due("plan(7, 5) with nothing allowed", x.plan(7, 5), -1);
        c.due("short0()", x.short0(), 7);
        units(c, x, 0, 0, 0, 0, 0, 0, 0);
    }

    /** Later pilots and prices leave the last PLAN as it is. */
    private static void planIsKept(Checks c) {
        ChargeTalk x = sixty();
        x.price(0, 2, 1);
        x.plan(130, 2);
        x.pilot(0, 12);
        x.price(0, 1440, 3);
        x.lost(0);
        c.due("short0()", x.short0(), 10);
        units(c, x, 0, 60, 60, 0);
    }

    private static void largest(Checks c) {
        ChargeTalk x = new ChargeTalk();
        x.pilot(970, 3);
        x.price(0, 1440, 1000);
        c.due("plan(1000000, 1440)", x.plan(1000000, 1440), 1000000000);
        c.due("planned(1249)", x.planned(1249), 800);
        c.due("planned(1250)", x.planned(1250), 0);
        c.due("plan(1000000, 1250)", x.plan(1000000, 1250), 1000000000);
        c.due("plan(1000000, 1249)", x.plan(1000000, 1249), -1);
        c.due("short0()", x.short0(), 800);
    }

    private static void plannedOutside(Checks c) {
        ChargeTalk x = sixty();
        x.price(0, 1440, 1);
        x.plan(1000000, 1440);
        c.due("planned(0)", x.planned(0), 60);
        c.due("planned(1439)", x.planned(1439), 60);
        for (long t : new long[] {-1, 1440, 1L << 32, Long.MIN_VALUE, Long.MAX_VALUE}) {
            c.due("planned(" + t + ")", x.planned(t), 0);
        }
    }
}
