/**
 * Charging a car: the pilot, the talk of car and column, the plug, stops, the meter, a plan of least
 * cost, and shares of a line by weights. Each part is a class of its own inside; this one checks
 * the arguments and answers.
 */
public final class ChargeTalk {
    private static final int UNKNOWN = -1;
    private static final int OUTSIDE = -2;
    private static final int WRONG_STATE = -3;
    private static final int NO_ROOM = -4;

    private static final int LAST_MESSAGE_KIND = 10;
    private static final long MESSAGE_MOST = 1000000L;
    private static final long METER_MOST = 1000000000L;
    private static final long WISH_MOST = 1000000L;
    private static final long ALL_MOST = 1000000000000L;
    private static final int STOP_BY_CAR = 0;
    private static final int STOP_IN_NEED = 1;

    private final Clock clock;
    private final Pilot signal;
    private final Talk talk;
    private final Tariff tariff;
    private final Line line;
    private boolean plugLocked;

    public ChargeTalk() {
        clock = new Clock();
        signal = new Pilot();
        talk = new Talk();
        tariff = new Tariff();
        line = new Line();
        plugLocked = false;
    }

    public int pilot(long share, long volt) {
        signal.set(share, volt);
        if (!signal.isConnected()) {
            talk.end();
        }
        return signal.level;
    }

    public int message(int kind, long v, long t) {
        if (kind < 0 || kind > LAST_MESSAGE_KIND) {
            return OUTSIDE;
        }
        if (!isWithin(v, -MESSAGE_MOST, MESSAGE_MOST) || !clock.canTell(t)) {
            return OUTSIDE;
        }
        clock.tell(t);
        boolean mayBegin = signal.isDigital() && plugLocked;
        return talk.take(kind, v, t, mayBegin) ? talk.phase : WRONG_STATE;
    }

    public int allowed() {
        return signal.tenthsOfAmpere();
    }

    public int plug(boolean locked) {
        if (locked == plugLocked) {
            return 0;
        }
        if (!locked && talk.isOn()) {
            return WRONG_STATE;
        }
        plugLocked = locked;
        return 1;
    }

    public int meter(long v) {
        if (!isWithin(v, 0, METER_MOST)) {
            return OUTSIDE;
        }
        return (int) (v - talk.wholeEnergy());
    }

    public int plan(long wish, long until) {
        if (!isWithin(wish, 0, WISH_MOST) || !isWithin(until, 0, Tariff.MINUTES)) {
            return OUTSIDE;
        }
        long cost = tariff.makePlan(wish, (int) until, signal.tenthsOfAmpere());
        return tariff.lacking > 0 ? -1 : (int) cost;
    }

    public long short0() {
        return tariff.lacking;
    }

    public int price(long from, long to, long cents) {
        if (!isWithin(from, 0, Tariff.MINUTES - 1) || !isWithin(to, from + 1, Tariff.MINUTES)) {
            return OUTSIDE;
        }
        if (!isWithin(cents, 0, Tariff.CENTS_MOST)) {
            return OUTSIDE;
        }
        if (tariff.isFull()) {
            return NO_ROOM;
        }
        return tariff.addSpan((int) from, (int) to, (int) cents);
    }

    public long planned(long t) {
        return tariff.unitsIn(t);
    }

    public int stop(int kind, long t) {
        if (kind != STOP_BY_CAR && kind != STOP_IN_NEED) {
            return UNKNOWN;
        }
        if (!clock.canTell(t)) {
            return OUTSIDE;
        }
        if (!talk.isCharging()) {
            return WRONG_STATE;
        }
        clock.tell(t);
        return kind == STOP_IN_NEED ? talk.breakOff() : talk.runDown();
    }

    public int car(int weight) {
        if (!isWithin(weight, 0, Line.WEIGHT_MOST)) {
            return OUTSIDE;
        }
        if (line.isFull()) {
            return NO_ROOM;
        }
        return line.add(weight);
    }

    public long share(int car, long all, int side) throws ArithmeticException {
        if (!line.has(car)) {
            return UNKNOWN;
        }
        if (!isWithin(all, 0, ALL_MOST)) {
            return OUTSIDE;
        }
        if (line.total == 0) {
            throw new ArithmeticException("all weights are 0");
        }
        long upper = all * line.weightOf(car);
        long lower = line.total;
        long factor = Math.max(1, commonFactor(upper, lower));
        return side == 0 ? upper / factor : lower / factor;
    }

    public int lost(long t) {
        if (!clock.canTell(t)) {
            return OUTSIDE;
        }
        clock.tell(t);
        int before = talk.phase;
        talk.end();
        return before;
    }

    public int state() {
        return talk.phase;
    }

    private static boolean isWithin(long x, long least, long most) {
        return x >= least && x <= most;
    }

    /** The greatest common factor of two numbers that are not negative. */
    private static long commonFactor(long a, long b) {
        long x = a;
        long y = b;
        // Two rounds at least halve x, so 64 bits are done long before the bound.
        for (int round = 0; round < 200 && y != 0; round++) {
            long rest = x % y;
            x = y;
            y = rest;
        }
        return x;
    }

    /** The times told, which never go back. */
    private static final class Clock {
        private static final long TIME_MOST = 1L << 50;

        // Before the first time nothing was told, so no time is too early then.
        private long told = Long.MIN_VALUE;

        boolean canTell(long t) {
            return isWithin(t, told, TIME_MOST);
        }

        void tell(long t) {
            told = t;
        }
    }

    /** THE PILOT. */
    private static final class Pilot {
        private static final int SHARE_MOST = 1000;
        private static final int NO_LEVEL = 6;

        private int level = 0;
        private long thousandths = 0;

        void set(long share, long volt) {
            thousandths = share;
            level = isWithin(share, 0, SHARE_MOST) ? levelOf(volt) : NO_LEVEL;
        }

        boolean isConnected() {
            return level >= 1 && level <= 3;
        }

        boolean isDigital() {
            return isConnected() && isWithin(thousandths, 30, 70);
        }

        int tenthsOfAmpere() {
            return isConnected() ? tenthsFor((int) thousandths) : 0;
        }

        private static int levelOf(long volt) {
            if (volt == 12) {
                return 0;
            }
            if (volt == 9) {
                return 1;
            }
            if (volt == 6) {
                return 2;
            }
            if (volt == 3) {
                return 3;
            }
            if (volt == 0) {
                return 4;
            }
            return volt == -12 ? 5 : NO_LEVEL;
        }

        private static int tenthsFor(int share) {
            if (share < 80 || share > 970) {
                return 0;
            }
            if (share < 100) {
                return 60;
            }
            if (share <= 850) {
                return 6 * share / 10;
            }
            return share <= 960 ? 25 * (share - 640) / 10 : 800;
        }
    }

    /** THE TALK, and the ENERGY of all TALKS. */
    private static final class Talk {
        private static final int NO_PHASE = 0;
        private static final int CHARGING = 7;
        private static final int RUNNING_DOWN = 8;
        private static final int OUT_OF_ORDER = -1;
        private static final long SILENCE_MOST = 5000;
        private static final long LIMIT_MOST = 5000;
        private static final long ENERGY_PER_UNIT = 36000;
        private static final int STOP_LEAST = 5000;

        private int phase = NO_PHASE;
        private boolean direct = false;
        private long limit = 0;
        private long current = 0;
        private long lastMessage = 0;
        private long energy = 0;

        boolean isOn() {
            return phase != NO_PHASE;
        }

        boolean isCharging() {
            return phase == CHARGING;
        }

        void end() {
            phase = NO_PHASE;
        }

        /** Takes a message, or ENDS the TALK and answers false. */
        boolean take(int kind, long v, long t, boolean mayBegin) {
            int next = isLate(t) ? OUT_OF_ORDER : phaseAfter(kind, v, mayBegin);
            if (next == OUT_OF_ORDER) {
                end();
                return false;
            }
            keep(kind, v, t);
            phase = next;
            return true;
        }

        /** The car's stop: the current goes down with its height. */
        int runDown() {
            phase = RUNNING_DOWN;
            int wholeAmperes = (int) (current / 10);
            return Math.max(STOP_LEAST, 1000 * wholeAmperes);
        }

        /** The stop in need. */
        int breakOff() {
            end();
            return STOP_LEAST;
        }

        long wholeEnergy() {
            return energy / ENERGY_PER_UNIT;
        }

        private boolean isLate(long t) {
            // A sum, as the difference could run over when the first time is far below 0.
            return isOn() && t > lastMessage + SILENCE_MOST;
        }

        private int phaseAfter(int kind, long v, boolean mayBegin) {
            switch (kind) {
                case 0:
                    return phase == NO_PHASE && mayBegin ? 1 : OUT_OF_ORDER;
                case 1:
                    return phase == 1 && (v == 0 || v == 1) ? 2 : OUT_OF_ORDER;
                case 2:
                    return phase == 2 && v == 1 ? 3 : OUT_OF_ORDER;
                case 3:
                    return phase == 3 && isLimit(v) ? 4 : OUT_OF_ORDER;
                case 4:
                    return phase == 4 && direct && v >= 100 ? 5 : OUT_OF_ORDER;
                case 5:
                    return phase == 5 ? phaseAtVolts(v) : OUT_OF_ORDER;
                case 6:
                    return (phase == 4 && !direct) || phase == 6 ? CHARGING : OUT_OF_ORDER;
                case 7:
                    return isCharging() && isWithin(v, 0, limit) ? CHARGING : OUT_OF_ORDER;
                case 8:
                    return isCharging() && isLimit(v) ? CHARGING : OUT_OF_ORDER;
                case 9:
                    return isCharging() ? RUNNING_DOWN : OUT_OF_ORDER;
                case 10:
                    return phase == RUNNING_DOWN ? NO_PHASE : OUT_OF_ORDER;
                default:
                    return OUT_OF_ORDER;
            }
        }

        private static int phaseAtVolts(long v) {
            return isWithin(v, 380, 420) ? 6 : 5;
        }

        private static boolean isLimit(long v) {
            return isWithin(v, 1, LIMIT_MOST);
        }

        /** What a message that is in order leaves behind, beside the PHASE. */
        private void keep(int kind, long v, long t) {
            if (kind == 0) {
                current = 0;
            } else if (kind == 1) {
                direct = v == 1;
            } else if (kind == 3 || kind == 8) {
                limit = v;
            } else if (kind == 7) {
                energy += v * (t - lastMessage);
                current = v;
            }
            lastMessage = t;
        }
    }

    /** PRICES, and the last PLAN over them. */
    private static final class Tariff {
        private static final int MINUTES = 1440;
        private static final int CENTS_MOST = 1000;
        private static final int SPANS_MOST = 20;
        private static final int NO_PRICE = -1;

        private final int[] centsIn = new int[MINUTES];
        private final int[] units = new int[MINUTES];
        // By cents: first what all minutes of that price can take, then what is yet to be given to them.
        private final long[] roomAt = new long[CENTS_MOST + 1];
        private int spans = 0;
        private long lacking = 0;

        Tariff() {
            for (int minute = 0; minute < MINUTES; minute++) {
                centsIn[minute] = NO_PRICE;
            }
        }

        boolean isFull() {
            return spans >= SPANS_MOST;
        }

        int addSpan(int from, int to, int cents) {
            // A later span hides the earlier ones for good, so only the minutes are kept.
            for (int minute = Math.max(0, from); minute < to && minute < MINUTES; minute++) {
                centsIn[minute] = cents;
            }
            spans++;
            return spans;
        }

        int unitsIn(long minute) {
            return minute >= 0 && minute < MINUTES ? units[(int) minute] : 0;
        }

        /** Makes a PLAN and answers its cost; lacking tells what it is short of. */
        long makePlan(long wish, int until, int most) {
            measureRoom(until, most);
            long cost = buyCheapest(wish);
            spread(until, most);
            return cost;
        }

        private void measureRoom(int until, int most) {
            for (int cents = 0; cents <= CENTS_MOST; cents++) {
                roomAt[cents] = 0;
            }
            for (int minute = 0; minute < until && minute < MINUTES; minute++) {
                int cents = centsIn[minute];
                if (isPrice(cents)) {
                    roomAt[cents] += most;
                }
            }
        }

        private long buyCheapest(long wish) {
            long left = wish;
            long cost = 0;
            for (int cents = 0; cents <= CENTS_MOST; cents++) {
                long bought = Math.min(left, roomAt[cents]);
                roomAt[cents] = bought;
                left -= bought;
                cost += bought * cents;
            }
            lacking = left;
            return cost;
        }

        private void spread(int until, int most) {
            for (int minute = 0; minute < MINUTES; minute++) {
                int cents = centsIn[minute];
                int given = 0;
                if (minute < until && isPrice(cents)) {
                    given = (int) Math.min(most, roomAt[cents]);
                    roomAt[cents] -= given;
                }
                units[minute] = given;
            }
        }

        private static boolean isPrice(int cents) {
            return cents >= 0 && cents <= CENTS_MOST;
        }
    }

    /** The cars on the line, numbered from 1. */
    private static final class Line {
        private static final int CARS_MOST = 10;
        private static final int WEIGHT_MOST = 1000;

        private final int[] weights = new int[CARS_MOST];
        private int count = 0;
        private long total = 0;

        boolean isFull() {
            return count >= CARS_MOST;
        }

        boolean has(int number) {
            return number >= 1 && number <= count;
        }

        int add(int weight) {
            if (count < CARS_MOST) {
                weights[count] = weight;
                total += weight;
                count++;
            }
            return count;
        }

        int weightOf(int number) {
            return number >= 1 && number <= CARS_MOST ? weights[number - 1] : 0;
        }
    }
}
