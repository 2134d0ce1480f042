/** PRICES, and promise 9: price. */
public final class PriceTest {
    private static final long TWO_32 = 1L << 32;

    public static void main(String[] args) {
        Checks c = new Checks();
        upToNot(c);
        toldLast(c);
        noPrice(c);
        howMany(c);
        from(c);
        to(c);
        cents(c);
        full(c);
        c.end();
    }

    /** A new object whose PILOT ALLOWS 60. */
    private static ChargeTalk sixty() {
        ChargeTalk x = new ChargeTalk();
        x.pilot(100, 6);
        return x;
    }

    /** Only minutes from .. to - 1 have a price: a PLAN that wants all there is shows them. */
    private static void hasJust(Checks c, ChargeTalk x, long from, long to) {
        x.plan(1000000, 1440);
        for (long minute = 0; minute < 1440; minute++) {
            long want = minute >= from && minute < to ? 60 : 0;
            c.due("planned(" + minute + ") with minutes " + from + " to " + to, x.planned(minute), want);
        }
    }

    private static void upToNot(Checks c) {
        c.sentence("A span, from a minute on up to another one, that one not");
        long[][] spans = {{0, 1}, {0, 1440}, {1439, 1440}, {1, 2}, {1438, 1439}, {600, 700}};
        for (long[] s : spans) {
            ChargeTalk x = sixty();
            c.due("price(" + s[0] + ", " + s[1] + ", 5)", x.price(s[0], s[1], 5), 1);
            hasJust(c, x, s[0], s[1]);
        }
    }

    private static void toldLast(Checks c) {
        c.sentence("a minute's price is that of the span told last that has it");
        ChargeTalk x = sixty();
        x.price(0, 4, 10);
        x.price(1, 3, 50);
        x.price(2, 3, 0);
        c.due("plan(240, 4) at 10, 50, 0 and 10", x.plan(240, 4), 60 * 10 + 60 * 50 + 60 * 10);
        x.price(0, 4, 7);
        c.due("plan(240, 4), all at 7", x.plan(240, 4), 240 * 7);
        x.price(3, 4, 9);
        c.due("plan(240, 4), the last at 9", x.plan(240, 4), 180 * 7 + 60 * 9);
    }

    private static void noPrice(Checks c) {
        c.sentence("a minute that none has has no price");
        ChargeTalk x = sixty();
        c.due("plan(1, 1440) without a span", x.plan(1, 1440), -1);
        c.due("short0()", x.short0(), 1);
        // A price of 0 cents is a price.
        x.price(10, 11, 0);
        c.due("plan(60, 1440) with one minute", x.plan(60, 1440), 0);
        c.due("plan(61, 1440) with one minute", x.plan(61, 1440), -1);
        hasJust(c, x, 10, 11);
    }

    private static void howMany(Checks c) {
        c.sentence("how many there are");
        ChargeTalk x = new ChargeTalk();
        for (int i = 1; i <= 20; i++) {
            // The same span twice is two spans.
            c.due("price number " + i, x.price(0, 1440, i / 2), i);
        }
    }

    private static void one(Checks c, long from, long to, long cents, long want) {
        c.due("price(" + from + ", " + to + ", " + cents + ")", new ChargeTalk().price(from, to, cents), want);
    }

    private static void from(Checks c) {
        c.sentence("-2 from is not 0 .. 1439");
        one(c, -1, 1, 5, -2);
        one(c, -1, 0, 5, -2);
        one(c, 0, 1, 5, 1);
        one(c, 1439, 1440, 5, 1);
        one(c, 1440, 1440, 5, -2);
        one(c, 1440, 1441, 5, -2);
        one(c, TWO_32, TWO_32 + 1, 5, -2);
        one(c, TWO_32, 1, 5, -2);
        one(c, Long.MIN_VALUE, 5, 5, -2);
        one(c, Long.MAX_VALUE, 1440, 5, -2);
        one(c, Long.MAX_VALUE, Long.MIN_VALUE, 5, -2);
    }

    private static void to(Checks c) {
        c.sentence("-2 to is not from + 1 .. 1440");
        for (long from : new long[] {0, 1, 700, 1438, 1439}) {
            one(c, from, from - 1, 5, -2);
            one(c, from, from, 5, -2);
            one(c, from, from + 1, 5, 1);
            one(c, from, 1440, 5, 1);
            one(c, from, 1441, 5, -2);
            one(c, from, TWO_32 + from + 1, 5, -2);
            one(c, from, Long.MIN_VALUE, 5, -2);
            one(c, from, Long.MAX_VALUE, 5, -2);
        }
    }

    private static void cents(Checks c) {
        c.sentence("-2 cents is not 0 .. 1000");
        one(c, 0, 1440, -1, -2);
        one(c, 0, 1440, 0, 1);
        one(c, 0, 1440, 1, 1);
        one(c, 0, 1440, 999, 1);
        one(c, 0, 1440, 1000, 1);
        one(c, 0, 1440, 1001, -2);
        one(c, 0, 1440, TWO_32, -2);
        one(c, 0, 1440, Long.MIN_VALUE, -2);
        one(c, 0, 1440, Long.MAX_VALUE, -2);
        ChargeTalk x = sixty();
        x.price(0, 1, 1000);
        c.due("plan(60, 1) at 1000 cents", x.plan(60, 1), 60000);
    }

    private static void full(Checks c) {
        c.sentence("-4 there are 20");
        ChargeTalk x = sixty();
        for (int i = 1; i <= 19; i++) {
            x.price(0, 10, i);
        }
        c.due("price(0, 5, 500), the twentieth", x.price(0, 5, 500), 20);
        for (int i = 0; i < 3; i++) {
            c.due("price(0, 1440, 1), the twenty-first", x.price(0, 1440, 1), -4);
        }
        c.due("plan(600, 1440): 5 minutes at 19, 5 at 500", x.plan(600, 1440), 300 * 19 + 300 * 500);
        hasJust(c, x, 0, 10);
    }
}
