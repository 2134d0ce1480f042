/** Promise 5: plug. */
public final class PlugTest {
    public static void main(String[] args) {
        Checks c = new Checks();
        ChargeTalk x = new ChargeTalk();
        c.due("plug(false)", x.plug(false), 0);
        c.due("plug(true)", x.plug(true), 1);
        c.due("plug(true)", x.plug(true), 0);
        c.due("plug(false)", x.plug(false), 1);
        c.due("plug(false)", x.plug(false), 0);
        for (int phase = 1; phase <= 8; phase++) {
            ChargeTalk y = Checks.inPhase(phase, true, 50, 0);
            c.due("plug(false) in PHASE " + phase, y.plug(false), -3);
            c.due("plug(true) in PHASE " + phase, y.plug(true), 0);
            c.due("state()", y.state(), phase);
            y.lost(0);
            c.due("plug(false) after PHASE " + phase, y.plug(false), 1);
        }
        c.end();
    }
}
