/** REFUSALS answer the first that fits: -1, then -2, -3 and -4, and only then comes an exception. */
public final class RefusalOrderTest {
    public static void main(String[] args) {
        Checks c = new Checks();
        stopKindFirst(c);
        stopTimeNext(c);
        messageRangeFirst(c);
        priceRangeFirst(c);
        carRangeFirst(c);
        shareCarFirst(c);
        shareAllNext(c);
        c.end();
    }

    private static void stopKindFirst(Checks c) {
        c.sentence("the first that fits: -1 of stop before its -2 and -3");
        ChargeTalk x = Checks.inPhase(7, true, 10, 100);
        c.due("stop(2, 99) in PHASE 7", x.stop(2, 99), -1);
        c.due("stop(-1, 2^50 + 1) in PHASE 7", x.stop(-1, Checks.TIME_MOST + 1), -1);
        ChargeTalk y = Checks.inPhase(6, true, 10, 100);
        c.due("stop(2, 100) in PHASE 6", y.stop(2, 100), -1);
        c.due("stop(2, 99) in PHASE 6", y.stop(2, 99), -1);
    }

    private static void stopTimeNext(Checks c) {
        c.sentence("the first that fits: -2 of stop before its -3");
        for (int phase = 0; phase <= 8; phase++) {
            ChargeTalk x = Checks.inPhase(phase, true, 10, 100);
            c.due("stop(0, 2^50 + 1) in PHASE " + phase, x.stop(0, Checks.TIME_MOST + 1), -2);
            c.due("stop(1, 2^50 + 1) in PHASE " + phase, x.stop(1, Checks.TIME_MOST + 1), -2);
            if (phase != 0) {
                c.due("stop(0, 99) in PHASE " + phase, x.stop(0, 99), -2);
                c.due("stop(1, 99) in PHASE " + phase, x.stop(1, 99), -2);
            }
        }
    }

    private static void messageRangeFirst(Checks c) {
        c.sentence("the first that fits: -2 of message before its -3");
        for (int phase = 1; phase <= 8; phase++) {
            ChargeTalk x = Checks.inPhase(phase, true, 10, 100);
            // Kind 0 is not in order here, and 5101 is too late: both would END the TALK.
            c.due("message(0, 1000001, 100)", x.message(0, 1000001, 100), -2);
            c.due("message(0, 0, 99)", x.message(0, 0, 99), -2);
            c.due("message(11, 0, 5101)", x.message(11, 0, 5101), -2);
            c.due("message(5, -1000001, 5101)", x.message(5, -1000001, 5101), -2);
            c.due("message(5, 0, 2^50 + 1)", x.message(5, 0, Checks.TIME_MOST + 1), -2);
            c.due("state()", x.state(), phase);
        }
    }

    private static void priceRangeFirst(Checks c) {
        c.sentence("the first that fits: -2 of price before its -4");
        ChargeTalk x = new ChargeTalk();
        for (int i = 0; i < 20; i++) {
            x.price(0, 1440, 1);
        }
        c.due("price(-1, 5, 1)", x.price(-1, 5, 1), -2);
        c.due("price(5, 5, 1)", x.price(5, 5, 1), -2);
        c.due("price(0, 1441, 1)", x.price(0, 1441, 1), -2);
        c.due("price(0, 5, 1001)", x.price(0, 5, 1001), -2);
        c.due("price(0, 5, 1000)", x.price(0, 5, 1000), -4);
    }

    private static void carRangeFirst(Checks c) {
        c.sentence("the first that fits: -2 of car before its -4");
        ChargeTalk x = new ChargeTalk();
        for (int i = 0; i < 10; i++) {
            x.car(1);
        }
        c.due("car(-1)", x.car(-1), -2);
        c.due("car(1001)", x.car(1001), -2);
        c.due("car(1000)", x.car(1000), -4);
    }

    private static void shareCarFirst(Checks c) {
        c.sentence("the first that fits: -1 of share before its -2 and its exception");
        ChargeTalk x = new ChargeTalk();
        c.due("share(1, -1, 0) without a car", Checks.shareOf(x, 1, -1, 0), -1);
        x.car(0);
        c.due("share(2, 1, 0) of weights 0", Checks.shareOf(x, 2, 1, 0), -1);
        c.due("share(0, -1, 0) of weights 0", Checks.shareOf(x, 0, -1, 0), -1);
        x.car(1);
        c.due("share(3, -1, 0)", Checks.shareOf(x, 3, -1, 0), -1);
        c.due("share(0, 10^12 + 1, 1)", Checks.shareOf(x, 0, 1000000000001L, 1), -1);
    }

    private static void shareAllNext(Checks c) {
        c.sentence("the first that fits: -2 of share before its exception");
        ChargeTalk x = new ChargeTalk();
        x.car(0);
        c.due("share(1, -1, 0)", Checks.shareOf(x, 1, -1, 0), -2);
        c.due("share(1, 10^12 + 1, 1)", Checks.shareOf(x, 1, 1000000000001L, 1), -2);
        c.due("share(1, 10^12, 1)", Checks.shareOf(x, 1, 1000000000000L, 1), Checks.THROWN);
    }
}
