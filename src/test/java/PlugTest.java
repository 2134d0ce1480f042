/** Promise 5: plug. */
public final class PlugTest {
    public static void main(String[] args) {
        Checks c = new Checks();
        otherWay(c);
        duringATalk(c);
        lockedDuringATalk(c);
        c.end();
    }

    private static void otherWay(Checks c) {
        c.sentence("1 if that is another way than before, 0 if not");
        ChargeTalk x = new ChargeTalk();
        c.due("plug(false)", x.plug(false), 0);
        for (int i = 0; i < 3; i++) {
            c.due("plug(true)", x.plug(true), 1);
            c.due("plug(true)", x.plug(true), 0);
            c.due("plug(false)", x.plug(false), 1);
            c.due("plug(false)", x.plug(false), 0);
        }
    }

    private static void duringATalk(Checks c) {
        c.sentence("-3 it would be opened during a TALK");
        for (int phase = 0; phase <= 8; phase++) {
            ChargeTalk x = Checks.inPhase(phase, true, 50, 0);
            if (phase == 0) {
                c.due("plug(false) without a TALK", x.plug(false), 1);
            } else {
                c.due("plug(false) in PHASE " + phase, x.plug(false), -3);
                c.due("state()", x.state(), phase);
                x.lost(0);
                c.due("plug(true): it was locked yet", x.plug(true), 0);
                c.due("plug(false) after the TALK", x.plug(false), 1);
            }
        }
        // However the TALK has ENDED, the plug may be opened then.
        ChargeTalk y = Checks.inPhase(8, false, 50, 0);
        y.message(10, 0, 0);
        c.due("plug(false) after message 10", y.plug(false), 1);
        ChargeTalk z = Checks.inPhase(7, false, 50, 0);
        z.stop(0, 0);
        c.due("plug(false) after a stop by the car", z.plug(false), -3);
        ChargeTalk w = Checks.inPhase(7, false, 50, 0);
        w.stop(1, 0);
        c.due("plug(false) after a stop in need", w.plug(false), 1);
        ChargeTalk v = Checks.inPhase(7, false, 50, 0);
        v.pilot(50, 12);
        c.due("plug(false) after a PILOT in STATE 0", v.plug(false), 1);
        ChargeTalk u = Checks.inPhase(7, false, 50, 0);
        u.message(0, 0, 0);
        c.due("plug(false) after a message not in order", u.plug(false), 1);
    }

    private static void lockedDuringATalk(Checks c) {
        c.sentence("0 if not: it is locked already during a TALK");
        for (int phase = 1; phase <= 8; phase++) {
            ChargeTalk x = Checks.inPhase(phase, true, 50, 0);
            c.due("plug(true) in PHASE " + phase, x.plug(true), 0);
            c.due("state()", x.state(), phase);
        }
    }
}
