/**
 * Counts the answers that are not as due, tells them with the sentence of the document that they break,
 * and ends a test with 1 if there was one.
 */
final class Checks {
    /** What a call gives in place of an answer when it throws ArithmeticException. */
    static final long THROWN = Long.MIN_VALUE;
    static final long TIME_MOST = 1L << 50;

    private int wrong = 0;
    private int sentences = 0;
    private String sentence = "";
    private boolean checked = true;

    /** What is checked from here on is the test of this sentence. */
    void sentence(String words) {
        endSentence();
        sentence = words;
        sentences++;
        checked = false;
    }

    void due(String call, long got, long want) {
        checked = true;
        if (got != want) {
            tell(call + " answered " + got + ", due is " + want);
        }
    }

    void holds(String what, boolean so) {
        checked = true;
        if (!so) {
            tell("does not hold: " + what);
        }
    }

    void end() {
        endSentence();
        String of = sentences == 0 ? "" : " in the tests of " + sentences + " sentences";
        System.out.println((wrong == 0 ? "all as due" : wrong + " not as due") + of);
        if (wrong != 0) {
            System.exit(1);
        }
    }

    private void endSentence() {
        if (!checked) {
            tell("nothing was checked");
        }
    }

    private void tell(String what) {
        wrong++;
        System.out.println(sentence.isEmpty() ? what : "\"" + sentence + "\": " + what);
    }

    static long shareOf(ChargeTalk x, int car, long all, int side) {
        try {
            return x.share(car, all, side);
        } catch (ArithmeticException e) {
            return THROWN;
        }
    }

    /** A new object, DIGITAL and with a locked plug, so that message 0 is in order. */
    static ChargeTalk ready() {
        ChargeTalk x = new ChargeTalk();
        x.pilot(50, 9);
        x.plug(true);
        return x;
    }

    /** Whether a TALK with this current comes through a PHASE. */
    static boolean hasPhase(int phase, boolean direct) {
        return direct || (phase != 5 && phase != 6);
    }

    /** Leads an object in PHASE 0 to a PHASE, with all messages at one time. */
    static void lead(ChargeTalk x, int phase, boolean direct, long limit, long t) {
        long[][] steps = direct
            ? new long[][] {{0, 0}, {1, 1}, {2, 1}, {3, limit}, {4, 100}, {5, 400}, {6, 0}, {9, 0}}
            : new long[][] {{0, 0}, {1, 0}, {2, 1}, {3, limit}, {6, 0}, {9, 0}};
        for (int i = 0; i < steps.length && x.state() != phase; i++) {
            x.message((int) steps[i][0], steps[i][1], t);
        }
        if (x.state() != phase) {
            throw new IllegalStateException("PHASE " + phase + " was not reached");
        }
    }

    static ChargeTalk inPhase(int phase, boolean direct, long limit, long t) {
        ChargeTalk x = ready();
        lead(x, phase, direct, limit, t);
        return x;
    }

    /** A message of each kind whose number every rule takes, if the PHASE does: a LIMIT of 10 or more. */
    static long goodNumber(int kind) {
        return new long[] {0, 1, 1, 10, 100, 400, 0, 10, 10, 0, 0}[kind];
    }
}
