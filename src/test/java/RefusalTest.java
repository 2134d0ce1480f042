import java.util.ArrayList;
import java.util.List;
import java.util.function.Function;
import java.util.function.Supplier;

/**
 * REFUSALS change nothing (but as told): after each refused call, in each PHASE, an object answers every
 * probe as one that was never asked. A probe may change the object, so each one gets a new one.
 */
public final class RefusalTest {
    /** The time told last to the objects here; that of their last message too. */
    private static final long NOW = 2000;
    private static final long LATER = 3000;
    private static final long TOO_MUCH = Checks.TIME_MOST + 1;

    private interface Call {
        long on(ChargeTalk x);
    }

    private record Refused(String name, long want, Call call) { }

    private record Probe(String name, Function<ChargeTalk, String> ask) { }

    public static void main(String[] args) {
        Checks c = new Checks();
        inEachPhase(c);
        ofANewObject(c);
        openedDuringATalk(c);
        stopInOtherPhases(c);
        noRoom(c);
        thrown(c);
        butAsTold(c);
        c.end();
    }

    private static void inEachPhase(Checks c) {
        c.sentence("REFUSALS change nothing: -1 and -2, in each PHASE");
        for (int phase = 0; phase <= 8; phase++) {
            for (Refused r : always()) {
                changesNothing(c, lived(phase, true), r);
                if (Checks.hasPhase(phase, false)) {
                    changesNothing(c, lived(phase, false), r);
                }
            }
            for (Refused r : early()) {
                changesNothing(c, lived(phase, true), r);
            }
        }
    }

    private static void ofANewObject(Checks c) {
        c.sentence("REFUSALS change nothing: a new object");
        for (Refused r : always()) {
            changesNothing(c, ChargeTalk::new, r);
        }
        changesNothing(c, ChargeTalk::new, new Refused("stop(0, 3000)", -3, x -> x.stop(0, LATER)));
        changesNothing(c, ChargeTalk::new, new Refused("share(1, 1, 0)", -1, x -> x.share(1, 1, 0)));
    }

    private static void openedDuringATalk(Checks c) {
        c.sentence("REFUSALS change nothing: -3 of plug");
        for (int phase = 1; phase <= 8; phase++) {
            changesNothing(c, lived(phase, true), new Refused("plug(false)", -3, x -> x.plug(false)));
        }
    }

    private static void stopInOtherPhases(Checks c) {
        c.sentence("REFUSALS change nothing: -3 of stop");
        for (int phase = 0; phase <= 8; phase++) {
            if (phase != 7) {
                changesNothing(c, lived(phase, true), new Refused("stop(0, 3000)", -3, x -> x.stop(0, LATER)));
                changesNothing(c, lived(phase, true), new Refused("stop(1, 3000)", -3, x -> x.stop(1, LATER)));
            }
        }
    }

    private static void noRoom(Checks c) {
        c.sentence("REFUSALS change nothing: -4");
        changesNothing(c, RefusalTest::crowded, new Refused("price(0, 1440, 0)", -4, x -> x.price(0, 1440, 0)));
        changesNothing(c, RefusalTest::crowded, new Refused("car(1000)", -4, x -> x.car(1000)));
        changesNothing(c, RefusalTest::crowded, new Refused("car(0)", -4, x -> x.car(0)));
    }

    private static void thrown(Checks c) {
        c.sentence("ArithmeticException when all weights are 0, and nothing changes");
        Supplier<ChargeTalk> weightless = () -> {
            ChargeTalk x = lived(7, true, 0, 0);
            x.car(0);
            return x;
        };
        changesNothing(c, weightless, new Refused("share(1, 1, 0)", Checks.THROWN, x -> Checks.shareOf(x, 1, 1, 0)));
        changesNothing(c, weightless, new Refused("share(3, 0, 1)", Checks.THROWN, x -> Checks.shareOf(x, 3, 0, 1)));
    }

    /** A message with -3 does just what the loss of the line at that time does. */
    private static void butAsTold(Checks c) {
        c.sentence("but as told: -3 of message (then the TALK has ENDED; the time was told)");
        for (int phase = 0; phase <= 8; phase++) {
            Supplier<ChargeTalk> made = lived(phase, true);
            List<Refused> wrong = new ArrayList<>();
            int stray = phase == 8 ? 9 : 10;
            wrong.add(new Refused("message(" + stray + ", 0, 3000)", -3, x -> x.message(stray, 0, LATER)));
            wrong.add(new Refused("message(7, 51, 3000)", -3, x -> x.message(7, 51, LATER)));
            for (Refused r : wrong) {
                same(c, made, "PHASE " + phase, r, x -> x.lost(LATER));
            }
            if (phase != 0) {
                int kind = new int[] {0, 1, 2, 3, 4, 5, 6, 7, 10}[phase];
                long v = Checks.goodNumber(kind);
                Refused late = new Refused("message(" + kind + ", " + v + ", 7001)", -3, x -> x.message(kind, v, 7001));
                same(c, made, "PHASE " + phase, late, x -> x.lost(7001));
            }
        }
    }

    /** Refused in every PHASE, and of a new object too. */
    private static List<Refused> always() {
        List<Refused> all = new ArrayList<>();
        all.add(new Refused("message(-1, 0, 3000)", -2, x -> x.message(-1, 0, LATER)));
        all.add(new Refused("message(11, 0, 3000)", -2, x -> x.message(11, 0, LATER)));
        for (int k = 0; k <= 10; k++) {
            int kind = k;
            all.add(new Refused("message(" + k + ", -1000001, 3000)", -2, x -> x.message(kind, -1000001, LATER)));
            all.add(new Refused("message(" + k + ", 1000001, 3000)", -2, x -> x.message(kind, 1000001, LATER)));
            long v = Checks.goodNumber(k);
            all.add(new Refused("message(" + k + ", " + v + ", 2^50 + 1)", -2, x -> x.message(kind, v, TOO_MUCH)));
        }
        all.add(new Refused("meter(-1)", -2, x -> x.meter(-1)));
        all.add(new Refused("meter(1000000001)", -2, x -> x.meter(1000000001)));
        all.add(new Refused("plan(-1, 4)", -2, x -> x.plan(-1, 4)));
        all.add(new Refused("plan(1000001, 4)", -2, x -> x.plan(1000001, 4)));
        all.add(new Refused("plan(5, -1)", -2, x -> x.plan(5, -1)));
        all.add(new Refused("plan(5, 1441)", -2, x -> x.plan(5, 1441)));
        all.add(new Refused("price(-1, 5, 1)", -2, x -> x.price(-1, 5, 1)));
        all.add(new Refused("price(1440, 1441, 1)", -2, x -> x.price(1440, 1441, 1)));
        all.add(new Refused("price(5, 5, 1)", -2, x -> x.price(5, 5, 1)));
        all.add(new Refused("price(0, 1441, 1)", -2, x -> x.price(0, 1441, 1)));
        all.add(new Refused("price(0, 1440, -1)", -2, x -> x.price(0, 1440, -1)));
        all.add(new Refused("price(0, 1440, 1001)", -2, x -> x.price(0, 1440, 1001)));
        all.add(new Refused("stop(-1, 3000)", -1, x -> x.stop(-1, LATER)));
        all.add(new Refused("stop(2, 3000)", -1, x -> x.stop(2, LATER)));
        all.add(new Refused("stop(0, 2^50 + 1)", -2, x -> x.stop(0, TOO_MUCH)));
        all.add(new Refused("stop(1, 2^50 + 1)", -2, x -> x.stop(1, TOO_MUCH)));
        all.add(new Refused("car(-1)", -2, x -> x.car(-1)));
        all.add(new Refused("car(1001)", -2, x -> x.car(1001)));
        all.add(new Refused("share(0, 1, 0)", -1, x -> x.share(0, 1, 0)));
        all.add(new Refused("share(3, 1, 0)", -1, x -> x.share(3, 1, 0)));
        all.add(new Refused("lost(2^50 + 1)", -2, x -> x.lost(TOO_MUCH)));
        return all;
    }

    /** Refused by an object that was told NOW and has two cars. */
    private static List<Refused> early() {
        List<Refused> all = new ArrayList<>();
        for (int k = 0; k <= 10; k++) {
            int kind = k;
            long v = Checks.goodNumber(k);
            all.add(new Refused("message(" + k + ", " + v + ", 1999)", -2, x -> x.message(kind, v, NOW - 1)));
        }
        all.add(new Refused("stop(0, 1999)", -2, x -> x.stop(0, NOW - 1)));
        all.add(new Refused("stop(1, 1999)", -2, x -> x.stop(1, NOW - 1)));
        all.add(new Refused("lost(1999)", -2, x -> x.lost(NOW - 1)));
        all.add(new Refused("share(1, -1, 0)", -2, x -> x.share(1, -1, 0)));
        all.add(new Refused("share(2, 10^12 + 1, 1)", -2, x -> x.share(2, 1000000000001L, 1)));
        return all;
    }

    private static Supplier<ChargeTalk> lived(int phase, boolean direct) {
        return () -> lived(phase, direct, 3, 9);
    }

    /** An object with prices, a PLAN that lacks units, cars, a TALK behind it and one in this PHASE. */
    private static ChargeTalk lived(int phase, boolean direct, int weight, int otherWeight) {
        ChargeTalk x = new ChargeTalk();
        x.pilot(100, 6);
        x.price(0, 4, 10);
        x.price(2, 3, 5);
        x.plan(250, 4);
        x.car(weight);
        x.car(otherWeight);
        x.pilot(50, 9);
        x.plug(true);
        Checks.lead(x, 7, !direct, 5000, 10);
        x.message(7, 4000, 20);
        x.lost(30);
        boolean charges = phase == 7 || phase == 8;
        Checks.lead(x, charges ? 7 : phase, direct, 50, charges ? 1000 : NOW);
        if (charges) {
            x.message(7, 45, NOW);
        }
        if (phase == 8) {
            x.message(9, 0, NOW);
        }
        if (phase == 0) {
            x.lost(NOW);
        }
        return x;
    }

    private static ChargeTalk crowded() {
        ChargeTalk x = lived(7, true, 3, 9);
        for (int i = 2; i < 20; i++) {
            x.price(i, i + 1, i);
        }
        for (int i = 2; i < 10; i++) {
            x.car(i);
        }
        return x;
    }

    private static void changesNothing(Checks c, Supplier<ChargeTalk> made, Refused r) {
        same(c, made, "PHASE " + made.get().state(), r, x -> 0);
    }

    /** The refused call answers as it should, and leaves the object as the other call does. */
    private static void same(Checks c, Supplier<ChargeTalk> made, String where, Refused r, Call other) {
        c.due(r.name + " in " + where, r.call.on(made.get()), r.want);
        for (Probe p : probes()) {
            ChargeTalk refused = made.get();
            r.call.on(refused);
            ChargeTalk like = made.get();
            other.on(like);
            String got = p.ask.apply(refused);
            String want = p.ask.apply(like);
            c.holds(p.name + " after " + r.name + " in " + where + " answers" + want + ", not" + got, got.equals(want));
        }
    }

    /** Each one asks for some part of what an object knows. */
    private static List<Probe> probes() {
        List<Probe> all = new ArrayList<>();
        all.add(new Probe("all that only asks", RefusalTest::asked));
        all.add(new Probe("share of all cars", RefusalTest::shares));
        all.add(new Probe("plug(true), lost, plug(false)", x -> told(x.plug(true), x.lost(NOW), x.plug(false))));
        all.add(new Probe("plug(false), state", x -> told(x.plug(false), x.state())));
        all.add(new Probe("price, car, share", x -> told(x.price(0, 1, 1), x.car(1)) + shares(x)));
        all.add(new Probe("lost and a new TALK",
            x -> told(x.lost(NOW), x.state(), x.message(0, 0, NOW), x.message(1, 1, NOW + 5000))));
        all.add(new Probe("lost before now", x -> told(x.lost(NOW - 1))));
        all.add(new Probe("stop(0), message 10", x -> told(x.stop(0, NOW), x.state(), x.message(10, 0, NOW + 5000))));
        all.add(new Probe("stop(1), state", x -> told(x.stop(1, NOW), x.state())));
        all.add(new Probe("message 7, meter, stop(0)",
            x -> told(x.message(7, 50, NOW + 720), x.meter(0), x.stop(0, NOW + 720))));
        all.add(new Probe("message 7 above the LIMIT", x -> told(x.message(7, 51, NOW))));
        all.add(new Probe("pilot, plan", x -> told(x.pilot(100, 6), x.plan(1000000, 1440)) + asked(x)));
        all.add(new Probe("the rest of the TALK", RefusalTest::toTheEnd));
        for (int k = 0; k <= 10; k++) {
            int kind = k;
            long v = Checks.goodNumber(k);
            all.add(new Probe("message " + k + " in time",
                x -> told(x.message(kind, v, NOW + 5000), x.state(), x.meter(0))));
            all.add(new Probe("message " + k + " too late", x -> told(x.message(kind, v, NOW + 5001), x.state())));
        }
        return all;
    }

    private static String told(long... answers) {
        StringBuilder text = new StringBuilder();
        for (long a : answers) {
            text.append(' ').append(a);
        }
        return text.toString();
    }

    private static String asked(ChargeTalk x) {
        StringBuilder text = new StringBuilder(told(x.state(), x.allowed(), x.short0(), x.meter(0)));
        for (int minute = 0; minute < 30; minute++) {
            text.append(told(x.planned(minute)));
        }
        return text + told(x.planned(1438), x.planned(1439));
    }

    private static String shares(ChargeTalk x) {
        StringBuilder text = new StringBuilder();
        for (int car = 1; car <= 11; car++) {
            text.append(told(Checks.shareOf(x, car, 7, 0), Checks.shareOf(x, car, 7, 1)));
        }
        return text.toString();
    }

    /** The messages that fit, one after the other: they show the kind of current, the LIMIT and the ENERGY. */
    private static String toTheEnd(ChargeTalk x) {
        int[] phaseOf = {0, 1, 2, 3, 4, 5, 6, 7, 7, 7, 8};
        StringBuilder text = new StringBuilder();
        for (int kind : new int[] {1, 2, 3, 4, 5, 6, 7, 9, 10}) {
            if (x.state() == phaseOf[kind]) {
                text.append(told(x.message(kind, Checks.goodNumber(kind), NOW + 100), x.state(), x.meter(0)));
            }
        }
        return text + told(x.state(), x.lost(NOW + 100));
    }
}
