/** Promise 6: meter. */
public final class MeterTest {
    public static void main(String[] args) {
        Checks c = new Checks();
        outside(c);
        wholeUnits(c);
        lessThanTheEnergy(c);
        refusedMessages(c);
        allTalks(c);
        c.end();
    }

    private static void outside(Checks c) {
        c.sentence("-2 v is not 0 .. 1000000000");
        ChargeTalk x = new ChargeTalk();
        c.due("meter(-1)", x.meter(-1), -2);
        c.due("meter(0)", x.meter(0), 0);
        c.due("meter(1)", x.meter(1), 1);
        c.due("meter(999999999)", x.meter(999999999), 999999999);
        c.due("meter(1000000000)", x.meter(1000000000L), 1000000000L);
        c.due("meter(1000000001)", x.meter(1000000001L), -2);
        c.due("meter(2^32)", x.meter(1L << 32), -2);
        c.due("the least meter", x.meter(Long.MIN_VALUE), -2);
        c.due("the most meter", x.meter(Long.MAX_VALUE), -2);
    }

    private static void wholeUnits(Checks c) {
        c.sentence("how much more that is than the ENERGY by 36000, whole");
        ChargeTalk x = Checks.inPhase(7, false, 5000, 0);
        x.message(7, 5000, 7);
        x.message(7, 999, 8);
        c.due("meter(5) at 35999", x.meter(5), 5);
        x.message(7, 1, 9);
        c.due("meter(5) at 36000", x.meter(5), 4);
        x.message(7, 1, 10);
        c.due("meter(5) at 36001", x.meter(5), 4);
        x.message(7, 4999, 17);
        x.message(7, 1005, 18);
        c.due("meter(5) at 71999", x.meter(5), 4);
        x.message(7, 1, 19);
        c.due("meter(5) at 72000", x.meter(5), 3);
    }

    private static void lessThanTheEnergy(Checks c) {
        c.sentence("how much more that is: below 0 if it is less");
        ChargeTalk x = Checks.inPhase(7, false, 5000, 0);
        x.message(7, 5000, 5000);
        c.due("meter(695) at 25000000", x.meter(695), 1);
        c.due("meter(694) at 25000000", x.meter(694), 0);
        c.due("meter(693) at 25000000", x.meter(693), -1);
        c.due("meter(0) at 25000000", x.meter(0), -694);
        c.due("meter(1000000000) at 25000000", x.meter(1000000000), 1000000000 - 694);
    }

    private static void refusedMessages(Checks c) {
        c.sentence("the ENERGY is that of messages 7 that are in order");
        ChargeTalk x = Checks.inPhase(7, false, 5000, 0);
        x.message(7, 36, 1000);
        x.message(7, 36, 999);
        x.message(7, 2000000, 1500);
        x.message(11, 0, 1500);
        x.stop(2, 1500);
        x.message(7, 36, 2000);
        c.due("meter(2) after refusals between", x.meter(2), 0);
        x.message(7, 5001, 4000);
        c.due("meter(2) after a message that was not in order", x.meter(2), 0);
        ChargeTalk y = Checks.inPhase(7, false, 5000, 0);
        y.message(7, 5000, 5001);
        c.due("meter(0) after a message that was too late", y.meter(0), 0);
    }

    private static void allTalks(Checks c) {
        c.sentence("the ENERGY (of all TALKS)");
        ChargeTalk x = Checks.inPhase(7, false, 5000, 0);
        x.message(7, 36, 999);
        x.lost(1000);
        c.due("meter(0) after the TALK, at 35964", x.meter(0), 0);
        Checks.lead(x, 7, true, 5000, 900000);
        c.due("meter(0) in the next TALK", x.meter(0), 0);
        x.message(7, 35, 900001);
        c.due("meter(0) of both TALKS, at 35999", x.meter(0), 0);
        x.message(7, 1, 900002);
        c.due("meter(0) of both TALKS, at 36000", x.meter(0), -1);
    }
}
