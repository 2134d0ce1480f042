/** Promises 12 and 13: car and share. */
public final class ShareTest {
    public static void main(String[] args) {
        Checks c = new Checks();
        cars(c);
        lowestTerms(c);
        refusals(c);
        largest(c);
        c.end();
    }

    private static void cars(Checks c) {
        ChargeTalk x = new ChargeTalk();
        for (int weight : new int[] {-1, 1001, Integer.MIN_VALUE, Integer.MAX_VALUE}) {
            c.due("car(" + weight + ")", x.car(weight), -2);
        }
        c.due("car(0)", x.car(0), 1);
        c.due("car(1000)", x.car(1000), 2);
        for (int number = 3; number <= 10; number++) {
            c.due("car(1)", x.car(1), number);
        }
        c.due("car(1), the eleventh", x.car(1), -4);
        c.due("car(1001), the eleventh", x.car(1001), -2);
        c.due("share(2, 1008, 0) after both refusals", Checks.shareOf(x, 2, 1008, 0), 1000);
    }

    private static void share(Checks c, ChargeTalk x, int car, long all, long upper, long lower) {
        String call = "share(" + car + ", " + all + ", ";
        c.due(call + "0)", Checks.shareOf(x, car, all, 0), upper);
        for (int side : new int[] {1, 2, -1, Integer.MAX_VALUE, Integer.MIN_VALUE}) {
            c.due(call + side + ")", Checks.shareOf(x, car, all, side), lower);
        }
    }

    private static void lowestTerms(Checks c) {
        ChargeTalk x = new ChargeTalk();
        x.car(0);
        x.car(4);
        x.car(6);
        share(c, x, 1, 100, 0, 1);
        share(c, x, 2, 100, 40, 1);
        share(c, x, 3, 100, 60, 1);
        share(c, x, 2, 1, 2, 5);
        share(c, x, 3, 7, 21, 5);
        share(c, x, 3, 0, 0, 1);
        x.car(3);
        share(c, x, 2, 1, 4, 13);
        share(c, x, 4, 26, 6, 1);
    }

    private static void refusals(Checks c) {
        ChargeTalk x = new ChargeTalk();
        c.due("share(1, 1, 0) without cars", Checks.shareOf(x, 1, 1, 0), -1);
        x.car(0);
        c.due("share(1, 1, 0) of weights 0", Checks.shareOf(x, 1, 1, 0), Checks.THROWN);
        c.due("share(1, 0, 1) of weights 0", Checks.shareOf(x, 1, 0, 1), Checks.THROWN);
        c.due("share(2, 1, 0) of weights 0", Checks.shareOf(x, 2, 1, 0), -1);
        c.due("share(1, -1, 0) of weights 0", Checks.shareOf(x, 1, -1, 0), -2);
        x.car(5);
        for (int car : new int[] {0, -1, 3, 11, Integer.MIN_VALUE, Integer.MAX_VALUE}) {
            c.due("share(" + car + ", 1, 0)", Checks.shareOf(x, car, 1, 0), -1);
            c.due("share(" + car + ", -1, 0)", Checks.shareOf(x, car, -1, 0), -1);
        }
        for (long all : new long[] {-1, 1000000000001L, Long.MIN_VALUE, Long.MAX_VALUE}) {
            c.due("share(2, " + all + ", 0)", Checks.shareOf(x, 2, all, 0), -2);
            c.due("share(2, " + all + ", 1)", Checks.shareOf(x, 2, all, 1), -2);
        }
    }

    private static void largest(Checks c) {
        ChargeTalk x = new ChargeTalk();
        for (int i = 0; i < 10; i++) {
            x.car(i == 9 ? 997 : 1000);
        }
        share(c, x, 1, 1000000000000L, 1000000000000000L, 9997);
        share(c, x, 10, 1000000000000L, 997000000000000L, 9997);
        // 9997 is 13 times 769, and 13 goes into this one.
        share(c, x, 10, 999999999999L, 997L * 999999999999L / 13, 769);
    }
}
