/** THE PILOT, and promises 2 and 4: pilot and allowed. */
public final class PilotTest {
    private static final long[] CONNECTED = {9, 6, 3};
    private static final long[] OTHERS = {12, 0, -12, 5};
    private static final long TWO_32 = 1L << 32;

    public static void main(String[] args) {
        Checks c = new Checks();
        volts(c);
        otherVolts(c);
        shareOutside(c);
        sixty(c);
        sixTenths(c);
        twentyFiveTenths(c);
        eightHundred(c);
        otherShares(c);
        otherStates(c);
        digitalShares(c);
        digitalStates(c);
        atFirst(c);
        c.end();
    }

    private static void level(Checks c, long share, long volt, long want) {
        c.due("pilot(" + share + ", " + volt + ")", new ChargeTalk().pilot(share, volt), want);
    }

    private static void volts(Checks c) {
        c.sentence("Its STATE is 0, 1, 2, 3, 4, 5 for 12, 9, 6, 3, 0, -12 volts");
        long[] of = {12, 9, 6, 3, 0, -12};
        for (int state = 0; state < of.length; state++) {
            level(c, 500, of[state], state);
        }
        // One object goes through all of them, there and back.
        ChargeTalk x = new ChargeTalk();
        for (int i = 0; i < 12; i++) {
            int state = i < 6 ? i : 11 - i;
            c.due("pilot(500, " + of[state] + ")", x.pilot(500, of[state]), state);
        }
    }

    private static void otherVolts(Checks c) {
        c.sentence("6 for other volts");
        for (long volt : new long[] {13, 11, 10, 8, 7, 5, 4, 2, 1, -1, -2, -3, -6, -9, -11, -13}) {
            level(c, 500, volt, 6);
        }
        for (long volt : new long[] {12, 9, 6, 3, 0, -12}) {
            level(c, 500, volt + TWO_32, 6);
            level(c, 500, volt - TWO_32, 6);
        }
        level(c, 500, Long.MIN_VALUE, 6);
        level(c, 500, Long.MAX_VALUE, 6);
    }

    private static void shareOutside(Checks c) {
        c.sentence("or if the share is not 0 .. 1000");
        long[] volts = {12, 9, 6, 3, 0, -12, 5};
        for (int state = 0; state < volts.length; state++) {
            level(c, 0, volts[state], state);
            level(c, 1000, volts[state], state);
            for (long share : new long[] {-1, 1001, TWO_32, TWO_32 + 500, Long.MIN_VALUE, Long.MAX_VALUE}) {
                level(c, share, volts[state], 6);
            }
        }
    }

    private static void allows(Checks c, long share, long want) {
        for (long volt : CONNECTED) {
            ChargeTalk x = new ChargeTalk();
            x.pilot(share, volt);
            c.due("allowed() after pilot(" + share + ", " + volt + ")", x.allowed(), want);
        }
    }

    private static void sixty(Checks c) {
        c.sentence("60 for s 80 .. 99");
        allows(c, 79, 0);
        allows(c, 80, 60);
        allows(c, 81, 60);
        allows(c, 98, 60);
        allows(c, 99, 60);
    }

    private static void sixTenths(Checks c) {
        c.sentence("6 s / 10 for 100 .. 850, whole");
        allows(c, 100, 60);
        allows(c, 101, 60);
        allows(c, 102, 61);
        allows(c, 104, 62);
        allows(c, 105, 63);
        allows(c, 849, 509);
        allows(c, 850, 510);
    }

    private static void twentyFiveTenths(Checks c) {
        c.sentence("25 (s - 640) / 10 for 851 .. 960, whole");
        allows(c, 851, 527);
        allows(c, 852, 530);
        allows(c, 853, 532);
        allows(c, 959, 797);
        allows(c, 960, 800);
    }

    private static void eightHundred(Checks c) {
        c.sentence("800 for 961 .. 970");
        allows(c, 961, 800);
        allows(c, 969, 800);
        allows(c, 970, 800);
        allows(c, 971, 0);
    }

    private static void otherShares(Checks c) {
        c.sentence("0 for others");
        for (long share : new long[] {0, 1, 29, 30, 70, 71, 79, 971, 972, 999, 1000}) {
            allows(c, share, 0);
        }
        for (long share : new long[] {-1, 1001, TWO_32 + 500, 500 - TWO_32, Long.MIN_VALUE, Long.MAX_VALUE}) {
            allows(c, share, 0);
        }
    }

    private static void otherStates(Checks c) {
        c.sentence("In other STATES 0");
        for (long volt : OTHERS) {
            for (long share : new long[] {0, 80, 99, 100, 850, 851, 960, 961, 970, 1000}) {
                ChargeTalk x = new ChargeTalk();
                x.pilot(500, 9);
                x.pilot(share, volt);
                c.due("allowed() after pilot(" + share + ", " + volt + ")", x.allowed(), 0);
            }
        }
    }

    /** Only message 0 shows whether the PILOT is DIGITAL. */
    private static void begins(Checks c, long share, long volt, long want) {
        ChargeTalk x = new ChargeTalk();
        x.plug(true);
        x.pilot(share, volt);
        c.due("message(0, 0, 0) after pilot(" + share + ", " + volt + ")", x.message(0, 0, 0), want);
    }

    private static void digitalShares(Checks c) {
        c.sentence("It is DIGITAL if s is 30 .. 70");
        for (long volt : CONNECTED) {
            begins(c, 0, volt, -3);
            begins(c, 29, volt, -3);
            begins(c, 30, volt, 1);
            begins(c, 31, volt, 1);
            begins(c, 69, volt, 1);
            begins(c, 70, volt, 1);
            begins(c, 71, volt, -3);
            begins(c, 1000, volt, -3);
            begins(c, TWO_32 + 50, volt, -3);
        }
    }

    private static void digitalStates(Checks c) {
        c.sentence("DIGITAL in STATES 1 to 3");
        for (long volt : OTHERS) {
            begins(c, 30, volt, -3);
            begins(c, 50, volt, -3);
            begins(c, 70, volt, -3);
        }
        for (long volt : CONNECTED) {
            begins(c, 50, volt, 1);
        }
    }

    private static void atFirst(Checks c) {
        c.sentence("At first the STATE is 0, s 0");
        ChargeTalk x = new ChargeTalk();
        c.due("allowed()", x.allowed(), 0);
        x.plug(true);
        c.due("message(0, 0, 0)", x.message(0, 0, 0), -3);
    }
}
