/** Counts the answers that are not as due, and ends a test with 1 if there was one. */
final class Checks {
    /** What a call gives in place of an answer when it throws ArithmeticException. */
    static final long THROWN = Long.MIN_VALUE;

    private int wrong = 0;

    void due(String call, long got, long want) {
        if (got != want) {
            wrong++;
            System.out.println(call + " answered " + got + ", due is " + want);
        }
    }

    void holds(String what, boolean so) {
        if (!so) {
            wrong++;
            System.out.println("does not hold: " + what);
        }
    }

    void end() {
        System.out.println(wrong == 0 ? "all as due" : wrong + " not as due");
        if (wrong != 0) {
            System.exit(1);
        }
    }

    static long shareOf(ChargeTalk x, int car, long all, int side) {
        try {
            return x.share(car, all, side);
        } catch (ArithmeticException e) {
            return THROWN;
        }
    }

    /** A new object, DIGITAL and with a locked plug, so that message 0 is in order. */
    static ChargeTalk ready() {
        ChargeTalk x = new ChargeTalk();
        x.pilot(50, 9);
        x.plug(true);
        return x;
    }

    /** Leads an object in PHASE 0 to a PHASE, with all messages at one time. */
    static void lead(ChargeTalk x, int phase, boolean direct, long limit, long t) {
        long[][] steps = direct
            ? new long[][] {{0, 0}, {1, 1}, {2, 1}, {3, limit}, {4, 100}, {5, 400}, {6, 0}, {9, 0}}
            : new long[][] {{0, 0}, {1, 0}, {2, 1}, {3, limit}, {6, 0}, {9, 0}};
        for (int i = 0; i < steps.length && x.state() != phase; i++) {
            x.message((int) steps[i][0], steps[i][1], t);
        }
        if (x.state() != phase) {
            throw new IllegalStateException("PHASE " + phase + " was not reached");
        }
    }

    static ChargeTalk inPhase(int phase, boolean direct, long limit, long t) {
        ChargeTalk x = ready();
        lead(x, phase, direct, limit, t);
        return x;
    }
}
