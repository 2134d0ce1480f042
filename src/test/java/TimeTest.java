import java.util.function.Consumer;

/** REFUSALS, -2: a time that is less than one told before, or above 2^50. */
public final class TimeTest {
    private static final long TIME_MOST = Checks.TIME_MOST;

    public static void main(String[] args) {
        Checks c = new Checks();
        lessThanTold(c);
        tellsNone(c);
        mostOfMessage(c);
        mostOfStop(c);
        mostOfLost(c);
        noneToldBefore(c);
        c.end();
    }

    /** Object x was told 1000 last: all three calls that have a time must take that one and no earlier one. */
    private static void toldThousand(Checks c, String how, Consumer<ChargeTalk> teller) {
        for (long early : new long[] {999, 0, -1, Long.MIN_VALUE}) {
            ChargeTalk x = Checks.inPhase(7, true, 10, 500);
            teller.accept(x);
            int phase = x.state();
            c.due("message(9, 0, " + early + ") after " + how, x.message(9, 0, early), -2);
            c.due("stop(0, " + early + ") after " + how, x.stop(0, early), -2);
            c.due("stop(1, " + early + ") after " + how, x.stop(1, early), -2);
            c.due("lost(" + early + ") after " + how, x.lost(early), -2);
            c.due("state()", x.state(), phase);
            c.due("lost(1000) after " + how, x.lost(1000), phase);
            Checks.lead(x, 7, false, 10, 1000);
            c.due("stop(0, 1000) after " + how, x.stop(0, 1000), 5000);
        }
    }

    private static void lessThanTold(Checks c) {
        c.sentence("a time: less than one told before");
        toldThousand(c, "message(7, 1, 1000)", x -> x.message(7, 1, 1000));
        toldThousand(c, "message(0, 0, 1000), not in order", x -> x.message(0, 0, 1000));
        toldThousand(c, "stop(0, 1000)", x -> x.stop(0, 1000));
        toldThousand(c, "stop(1, 1000)", x -> x.stop(1, 1000));
        toldThousand(c, "lost(1000)", x -> x.lost(1000));
        // A message that is too late tells its time as well.
        ChargeTalk x = Checks.inPhase(7, true, 10, 0);
        c.due("message(7, 1, 5001)", x.message(7, 1, 5001), -3);
        c.due("lost(5000)", x.lost(5000), -2);
        c.due("lost(5001)", x.lost(5001), 0);
    }

    private static void tellsNone(Checks c) {
        c.sentence("REFUSALS change nothing: their times are not told");
        ChargeTalk x = Checks.inPhase(7, true, 10, 1000);
        c.due("message(11, 0, 2000)", x.message(11, 0, 2000), -2);
        c.due("message(7, 1000001, 2000)", x.message(7, 1000001, 2000), -2);
        c.due("message(7, 1, 2^50 + 1)", x.message(7, 1, TIME_MOST + 1), -2);
        c.due("message(7, 1, 999)", x.message(7, 1, 999), -2);
        c.due("stop(2, 2000)", x.stop(2, 2000), -1);
        c.due("stop(0, 2^50 + 1)", x.stop(0, TIME_MOST + 1), -2);
        c.due("lost(2^50 + 1)", x.lost(TIME_MOST + 1), -2);
        c.due("lost(999)", x.lost(999), -2);
        c.due("lost(1000)", x.lost(1000), 7);
        c.due("stop(0, 2000) without a TALK", x.stop(0, 2000), -3);
        c.due("stop(1, 2000) without a TALK", x.stop(1, 2000), -3);
        c.due("lost(999)", x.lost(999), -2);
        c.due("lost(1000)", x.lost(1000), 0);
    }

    private static void mostOfMessage(Checks c) {
        c.sentence("or above 2^50: message");
        ChargeTalk x = Checks.ready();
        c.due("message(0, 0, 2^50 + 1)", x.message(0, 0, TIME_MOST + 1), -2);
        c.due("message(0, 0, the most)", x.message(0, 0, Long.MAX_VALUE), -2);
        c.due("message(0, 0, 2^50 - 5000)", x.message(0, 0, TIME_MOST - 5000), 1);
        c.due("message(1, 0, 2^50)", x.message(1, 0, TIME_MOST), 2);
        c.due("message(2, 1, 2^50 + 1)", x.message(2, 1, TIME_MOST + 1), -2);
        c.due("message(2, 1, 2^50)", x.message(2, 1, TIME_MOST), 3);
    }

    private static void mostOfStop(Checks c) {
        c.sentence("or above 2^50: stop");
        for (int kind = 0; kind <= 1; kind++) {
            ChargeTalk x = Checks.inPhase(7, false, 10, 0);
            c.due("stop(" + kind + ", 2^50 + 1)", x.stop(kind, TIME_MOST + 1), -2);
            c.due("stop(" + kind + ", the most)", x.stop(kind, Long.MAX_VALUE), -2);
            c.due("state()", x.state(), 7);
            c.due("stop(" + kind + ", 2^50): no stop is too late", x.stop(kind, TIME_MOST), 5000);
            c.due("state()", x.state(), kind == 0 ? 8 : 0);
        }
    }

    private static void mostOfLost(Checks c) {
        c.sentence("or above 2^50: lost");
        ChargeTalk x = Checks.inPhase(7, false, 10, 0);
        c.due("lost(2^50 + 1)", x.lost(TIME_MOST + 1), -2);
        c.due("lost(the most)", x.lost(Long.MAX_VALUE), -2);
        c.due("lost(2^50)", x.lost(TIME_MOST), 7);
        c.due("lost(2^50 - 1)", x.lost(TIME_MOST - 1), -2);
        c.due("lost(2^50) again", x.lost(TIME_MOST), 0);
    }

    private static void noneToldBefore(Checks c) {
        c.sentence("less than one told before: before the first time no time is less");
        c.due("message(0, 0, 0)", Checks.ready().message(0, 0, 0), 1);
        c.due("lost(0)", new ChargeTalk().lost(0), 0);
        c.due("lost(-1)", new ChargeTalk().lost(-1), 0);
        ChargeTalk x = Checks.ready();
        c.due("message(0, 0, the least)", x.message(0, 0, Long.MIN_VALUE), 1);
        c.due("message(1, 0, the least + 5000)", x.message(1, 0, Long.MIN_VALUE + 5000), 2);
        c.due("message(2, 1, 2^50)", x.message(2, 1, TIME_MOST), -3);
    }
}
