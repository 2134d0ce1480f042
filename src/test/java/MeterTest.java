/** Promise 6: meter. */
public final class MeterTest {
    public static void main(String[] args) {
        Checks c = new Checks();
        edges(c);
        wholeUnits(c);
        betweenMessages(c);
        allTalks(c);
        c.end();
    }

    private static void edges(Checks c) {
        ChargeTalk x = new ChargeTalk();
        c.due("meter(0)", x.meter(0), 0);
        c.due("meter(1000000000)", x.meter(1000000000L), 1000000000L);
        c.due("meter(1000000001)", x.meter(1000000001L), -2);
        c.due("meter(-1)", x.meter(-1), -2);
        c.due("the least meter", x.meter(Long.MIN_VALUE), -2);
        c.due("the most meter", x.meter(Long.MAX_VALUE), -2);
        c.due("meter(2^32)", x.meter(1L << 32), -2);
    }

    private static void wholeUnits(Checks c) {
        ChargeTalk x = Checks.inPhase(7, false, 5000, 0);
        x.message(7, 5000, 7);
        x.message(7, 999, 8);
        c.due("meter(5) at 35999", x.meter(5), 5);
        x.message(7, 1, 9);
        c.due("meter(5) at 36000", x.meter(5), 4);
        c.due("meter(0) at 36000", x.meter(0), -1);
        x.message(7, 5000, 5009);
        c.due("meter(0) at 25036000", x.meter(0), -695);
        c.due("meter(700) at 25036000", x.meter(700), 5);
    }

    /** The time runs since the message before, of whatever kind, and not since a stop or a refusal. */
    private static void betweenMessages(Checks c) {
        ChargeTalk x = Checks.inPhase(7, false, 5000, 0);
        x.message(8, 4000, 1000);
        x.message(7, 36, 2000);
        c.due("meter(1) after a message 8 between", x.meter(1), 0);
        x.message(7, 36, 1999);
        x.message(7, 2000000, 2500);
        x.message(11, 0, 2500);
        x.stop(2, 2500);
        x.message(7, 36, 3000);
        c.due("meter(2) after refusals between", x.meter(2), 0);
        x.message(7, 4001, 4000);
        c.due("meter(2) after a message that was not in order", x.meter(2), 0);
        ChargeTalk y = Checks.inPhase(7, false, 5000, 0);
        y.message(7, 5000, 5001);
        c.due("meter(0) after a message that was too late", y.meter(0), 0);
    }

    private static void allTalks(Checks c) {
        ChargeTalk x = Checks.inPhase(7, false, 5000, 0);
        x.message(7, 36, 1000);
        x.lost(1000);
        c.due("meter(0) after the TALK", x.meter(0), -1);
        Checks.lead(x, 7, true, 5000, 900000);
        c.due("meter(0) in the next TALK", x.meter(0), -1);
        x.message(7, 36, 901000);
        c.due("meter(0) of both TALKS", x.meter(0), -2);
    }
}
