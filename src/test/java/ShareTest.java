/** Promises 12 and 13: car and share. */
public final class ShareTest {
    private static final long ALL_MOST = 1000000000000L;

    public static void main(String[] args) {
        Checks c = new Checks();
        numbers(c);
        weights(c);
        full(c);
        lowestTerms(c);
        sides(c);
        noCar(c);
        tenCars(c);
        allOutside(c);
        noWeight(c);
        largest(c);
        c.end();
    }

    private static ChargeTalk withCars(int... weights) {
        ChargeTalk x = new ChargeTalk();
        for (int weight : weights) {
            x.car(weight);
        }
        return x;
    }

    private static void side(Checks c, ChargeTalk x, int car, long all, int side, long want) {
        c.due("share(" + car + ", " + all + ", " + side + ")", Checks.shareOf(x, car, all, side), want);
    }

    private static void share(Checks c, ChargeTalk x, int car, long all, long upper, long lower) {
        side(c, x, car, all, 0, upper);
        side(c, x, car, all, 1, lower);
    }

    private static void numbers(Checks c) {
        c.sentence("A car on the line: its number");
        ChargeTalk x = new ChargeTalk();
        for (int number = 1; number <= 10; number++) {
            c.due("car(7)", x.car(7), number);
        }
    }

    private static void weights(Checks c) {
        c.sentence("with a weight (0 .. 1000): -2 it is none");
        ChargeTalk x = new ChargeTalk();
        for (int weight : new int[] {-1, 1001, Integer.MIN_VALUE, Integer.MAX_VALUE}) {
            c.due("car(" + weight + ")", x.car(weight), -2);
        }
        side(c, x, 1, 1, 0, -1);
        c.due("car(0)", x.car(0), 1);
        c.due("car(-1)", x.car(-1), -2);
        c.due("car(1)", x.car(1), 2);
        c.due("car(1001)", x.car(1001), -2);
        c.due("car(999)", x.car(999), 3);
        c.due("car(1000)", x.car(1000), 4);
        share(c, x, 1, 2000, 0, 1);
        share(c, x, 2, 2000, 1, 1);
        share(c, x, 3, 2000, 999, 1);
        share(c, x, 4, 2000, 1000, 1);
    }

    private static void full(Checks c) {
        c.sentence("-4 there are 10");
        ChargeTalk x = withCars(1, 1, 1, 1, 1, 1, 1, 1, 1);
        c.due("car(1), the tenth", x.car(1), 10);
        for (int weight : new int[] {0, 1, 1000}) {
            c.due("car(" + weight + "), the eleventh", x.car(weight), -4);
        }
        for (int car = 1; car <= 10; car++) {
            share(c, x, car, 1, 1, 10);
        }
        side(c, x, 11, 1, 0, -1);
    }

    private static void lowestTerms(Checks c) {
        c.sentence("A car's share of all by the weights, in lowest terms");
        ChargeTalk x = withCars(0, 4, 6);
        share(c, x, 1, 100, 0, 1);
        share(c, x, 2, 100, 40, 1);
        share(c, x, 3, 100, 60, 1);
        share(c, x, 2, 1, 2, 5);
        share(c, x, 3, 7, 21, 5);
        share(c, x, 2, 0, 0, 1);
        // A later car makes the others' shares smaller.
        x.car(3);
        share(c, x, 2, 1, 4, 13);
        share(c, x, 4, 26, 6, 1);
        share(c, withCars(1), 1, 1, 1, 1);
        share(c, withCars(1000), 1, 7, 7, 1);
    }

    private static void sides(Checks c) {
        c.sentence("side 0 the upper number, others the lower one");
        ChargeTalk x = withCars(4, 6);
        side(c, x, 1, 3, 0, 6);
        for (int s : new int[] {-1, 1, 2, Integer.MIN_VALUE, Integer.MAX_VALUE}) {
            side(c, x, 1, 3, s, 5);
        }
    }

    private static void noCar(Checks c) {
        c.sentence("-1 there is no car");
        for (int s = -1; s <= 2; s++) {
            side(c, new ChargeTalk(), 0, 1, s, -1);
            side(c, new ChargeTalk(), 1, 1, s, -1);
            ChargeTalk x = withCars(5, 5);
            for (int car : new int[] {0, -1, 3, 10, 11, Integer.MIN_VALUE, Integer.MAX_VALUE}) {
                side(c, x, car, 1, s, -1);
            }
        }
        share(c, withCars(5, 5), 1, 1, 1, 2);
        share(c, withCars(5, 5), 2, 1, 1, 2);
    }

    private static void tenCars(Checks c) {
        c.sentence("-1 there is no car: with 10 of them");
        ChargeTalk x = withCars(1, 2, 3, 4, 5, 6, 7, 8, 9, 10);
        side(c, x, 0, 55, 0, -1);
        share(c, x, 1, 55, 1, 1);
        share(c, x, 10, 55, 10, 1);
        side(c, x, 11, 55, 0, -1);
    }

    private static void allOutside(Checks c) {
        c.sentence("-2 all is not 0 .. 10^12");
        ChargeTalk x = withCars(1, 2);
        for (int s = 0; s <= 1; s++) {
            for (long all : new long[] {-1, ALL_MOST + 1, Long.MIN_VALUE, Long.MAX_VALUE}) {
                side(c, x, 2, all, s, -2);
            }
        }
        share(c, x, 2, 0, 0, 1);
        share(c, x, 2, 1, 2, 3);
        share(c, x, 2, ALL_MOST - 1, 2 * (ALL_MOST - 1) / 3, 1);
        share(c, x, 2, ALL_MOST, 2 * ALL_MOST, 3);
    }

    private static void noWeight(Checks c) {
        c.sentence("ArithmeticException when all weights are 0");
        for (int cars = 1; cars <= 10; cars++) {
            ChargeTalk x = withCars(new int[cars]);
            for (int s = -1; s <= 2; s++) {
                side(c, x, 1, 0, s, Checks.THROWN);
                side(c, x, cars, ALL_MOST, s, Checks.THROWN);
            }
            if (cars < 10) {
                // One weight of 1 is enough.
                x.car(1);
                share(c, x, 1, 9, 0, 1);
                share(c, x, cars + 1, 9, 9, 1);
            }
        }
    }

    private static void largest(Checks c) {
        c.sentence("all is 10^12 with the greatest weights");
        ChargeTalk x = withCars(1000, 1000, 1000, 1000, 1000, 1000, 1000, 1000, 1000, 997);
        share(c, x, 1, ALL_MOST, 1000 * ALL_MOST, 9997);
        share(c, x, 10, ALL_MOST, 997 * ALL_MOST, 9997);
        // 9997 is 13 times 769, and 13 goes into this one.
        share(c, x, 10, ALL_MOST - 1, 997 * (ALL_MOST - 1) / 13, 769);
        ChargeTalk y = withCars(1000, 1000, 1000, 1000, 1000, 1000, 1000, 1000, 1000, 1000);
        share(c, y, 10, ALL_MOST, ALL_MOST / 10, 1);
    }
}
