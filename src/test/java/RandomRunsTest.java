import java.util.ArrayList;
import java.util.Comparator;
import java.util.List;
import java.util.Random;

/**
 * Long runs of calls drawn from fixed seeds, against a second writing of the document that takes its
 * words as directly as it can. Anything but ArithmeticException of share ends the test.
 */
public final class RandomRunsTest {
    private static final int RUNS = 400;
    private static final int CALLS = 512;

    public static void main(String[] args) {
        Checks c = new Checks();
        int charging = 0;
        for (int run = 0; run < RUNS; run++) {
            charging += run(c, new Random(run));
        }
        c.holds("the runs reach PHASE 7 often: " + charging, charging > RUNS);
        c.end();
    }

    private static int run(Checks c, Random r) {
        ChargeTalk x = new ChargeTalk();
        Words w = new Words();
        int charging = 0;
        long now = r.nextInt(4) == 0 ? -3000 : 0;
        for (int i = 0; i < CALLS; i++) {
            long t = now + (r.nextInt(40) == 0 ? 5000 + r.nextInt(3) : r.nextInt(30) == 0 ? -1 : r.nextInt(3000));
            now = Math.max(now, t);
            call(c, x, w, r, t);
            c.due("state()", x.state(), w.phase);
            charging += w.phase == 7 ? 1 : 0;
        }
        return charging;
    }

    private static void call(Checks c, ChargeTalk x, Words w, Random r, long t) {
        int what = r.nextInt(100);
        if (what < 60) {
            int kind = r.nextInt(25) == 0 ? r.nextInt(13) - 1 : w.likelyKind(r);
            long v = r.nextInt(60) == 0 ? r.nextInt(4000000) - 2000000 : w.likelyNumber(kind, r);
            c.due("message(" + kind + ", " + v + ", " + t + ")", x.message(kind, v, t), w.message(kind, v, t));
        } else if (what < 66) {
            long share = w.phase == 0 ? 28 + r.nextInt(45) : r.nextInt(1010) - 5;
            long volt = new long[] {9, 6, 3, 9, 6, 3, 9, 6, 3, 12, 0, -12, 4}[r.nextInt(13)];
            c.due("pilot(" + share + ", " + volt + ")", x.pilot(share, volt), w.pilot(share, volt));
        } else if (what < 70) {
            boolean locked = r.nextInt(6) != 0;
            c.due("plug(" + locked + ")", x.plug(locked), w.plug(locked));
        } else if (what < 74) {
            long v = r.nextInt(3000) - 3;
            c.due("meter(" + v + ")", x.meter(v), w.meter(v));
        } else if (what < 77) {
            int kind = r.nextInt(5) == 0 ? r.nextInt(4) - 1 : r.nextInt(2);
            c.due("stop(" + kind + ", " + t + ")", x.stop(kind, t), w.stop(kind, t));
        } else if (what < 78) {
            c.due("lost(" + t + ")", x.lost(t), w.lost(t));
        } else if (what < 83) {
            long from = r.nextInt(1446) - 3;
            long to = from + (r.nextBoolean() ? r.nextInt(20) : r.nextInt(1445));
            long cents = r.nextInt(4) == 0 ? r.nextInt(1005) - 2 : r.nextInt(5);
            c.due("price(" + from + ", " + to + ", " + cents + ")", x.price(from, to, cents), w.price(from, to, cents));
        } else if (what < 88) {
            plan(c, x, w, r);
        } else if (what < 91) {
            int weight = r.nextInt(3) == 0 ? r.nextInt(1010) - 5 : r.nextInt(20) == 0 ? 5 : 0;
            c.due("car(" + weight + ")", x.car(weight), w.car(weight));
        } else if (what < 97) {
            int car = r.nextInt(13) - 1;
            long all = r.nextInt(3) == 0 ? r.nextLong() >> 22 : r.nextInt(2000) - 5;
            int side = r.nextInt(3) - 1;
            c.due("share(" + car + ", " + all + ", " + side + ")", Checks.shareOf(x, car, all, side),
                w.share(car, all, side));
        } else {
            c.due("allowed()", x.allowed(), w.allowed());
        }
    }

    private static void plan(Checks c, ChargeTalk x, Words w, Random r) {
        // A PILOT that only talks ALLOWS nothing, so most PLANS come with one that ALLOWS.
        if (w.phase == 0 && r.nextInt(4) != 0) {
            long share = 80 + r.nextInt(900);
            c.due("pilot(" + share + ", 6)", x.pilot(share, 6), w.pilot(share, 6));
        }
        long wish = r.nextInt(8) == 0 ? r.nextInt(1000100) : r.nextInt(8000) - 3;
        long until = r.nextInt(3) == 0 ? 1440 : r.nextInt(1450) - 3;
        c.due("plan(" + wish + ", " + until + ")", x.plan(wish, until), w.plan(wish, until));
        c.due("short0()", x.short0(), w.lacking);
        for (int minute = -1; minute <= 1440; minute++) {
            c.due("planned(" + minute + ")", x.planned(minute), minute < 0 || minute > 1439 ? 0 : w.units[minute]);
        }
    }

    /** The document's words once more. */
    private static final class Words {
        private long state = 0;
        private long s = 0;
        private int phase = 0;
        private boolean locked = false;
        private boolean direct = false;
        private long limit = 0;
        private long energy = 0;
        private long current = 0;
        private Long before = null;
        private Long told = null;
        private long lacking = 0;
        private long[] units = new long[1440];
        private final List<long[]> spans = new ArrayList<>();
        private final List<Integer> weights = new ArrayList<>();

        int likelyKind(Random r) {
            int[][] kinds = {{0}, {1}, {2}, {3}, {direct ? 4 : 6}, {5}, {6}, {7, 7, 7, 8, 9}, {10}};
            return kinds[phase][r.nextInt(kinds[phase].length)];
        }

        long likelyNumber(int kind, Random r) {
            switch (kind) {
                case 1: return r.nextInt(40) == 0 ? 2 : r.nextInt(2);
                case 2: return r.nextInt(20) == 0 ? 0 : 1;
                case 3: case 8: return r.nextInt(20) == 0 ? 5001 : 1 + r.nextInt(5000);
                case 4: return 98 + r.nextInt(30);
                case 5: return 370 + r.nextInt(60);
                case 7: return r.nextInt(20) == 0 ? limit + 1 : r.nextInt((int) limit + 1);
                default: return r.nextInt(10) - 5;
            }
        }

        boolean badTime(long t) {
            return (told != null && t < told) || t > 1125899906842624L;
        }

        boolean digital() {
            return s >= 30 && s <= 70 && state >= 1 && state <= 3;
        }

        long pilot(long share, long volt) {
            s = share;
            int at = List.of(12L, 9L, 6L, 3L, 0L, -12L).indexOf(volt);
            state = share < 0 || share > 1000 || at < 0 ? 6 : at;
            if (state < 1 || state > 3) {
                phase = 0;
            }
            return state;
        }

        long allowed() {
            if (state < 1 || state > 3) {
                return 0;
            }
            return s >= 80 && s <= 99 ? 60 : s >= 100 && s <= 850 ? 6 * s / 10
                : s >= 851 && s <= 960 ? 25 * (s - 640) / 10 : s >= 961 && s <= 970 ? 800 : 0;
        }

        long message(int kind, long v, long t) {
            if (kind < 0 || kind > 10 || v < -1000000 || v > 1000000 || badTime(t)) {
                return -2;
            }
            told = t;
            boolean ok = !(phase != 0 && t - before > 5000) && inOrder(kind, v, t);
            before = t;
            if (!ok) {
                phase = 0;
            }
            return ok ? phase : -3;
        }

        boolean inOrder(int kind, long v, long t) {
            if (kind == 0 && phase == 0 && digital() && locked) {
                phase = 1;
                current = 0;
            } else if (kind == 1 && phase == 1 && v >= 0 && v <= 1) {
                phase = 2;
                direct = v == 1;
            } else if (kind == 2 && phase == 2 && v == 1) {
                phase = 3;
            } else if (kind == 3 && phase == 3 && v >= 1 && v <= 5000) {
                phase = 4;
                limit = v;
            } else if (kind == 4 && phase == 4 && direct && v >= 100) {
                phase = 5;
            } else if (kind == 5 && phase == 5) {
                phase = v >= 380 && v <= 420 ? 6 : 5;
            } else if (kind == 6 && (phase == 6 || phase == 4 && !direct)) {
                phase = 7;
            } else if (kind == 7 && phase == 7 && v >= 0 && v <= limit) {
                energy += v * (t - before);
                current = v;
            } else if (kind == 8 && phase == 7 && v >= 1 && v <= 5000) {
                limit = v;
            } else if (kind == 9 && phase == 7) {
                phase = 8;
            } else if (kind == 10 && phase == 8) {
                phase = 0;
            } else {
                return false;
            }
            return true;
        }

        long plug(boolean lock) {
            if (!lock && phase != 0) {
                return -3;
            }
            boolean other = lock != locked;
            locked = lock;
            return other ? 1 : 0;
        }

        long meter(long v) {
            return v < 0 || v > 1000000000 ? -2 : v - energy / 36000;
        }

        long stop(int kind, long t) {
            if (kind < 0 || kind > 1) {
                return -1;
            }
            if (badTime(t) || phase != 7) {
                return badTime(t) ? -2 : -3;
            }
            told = t;
            phase = kind == 0 ? 8 : 0;
            return kind == 1 ? 5000 : Math.max(5000, current / 10 * 1000);
        }

        long lost(long t) {
            if (badTime(t)) {
                return -2;
            }
            told = t;
            long was = phase;
            phase = 0;
            return was;
        }

        long price(long from, long to, long cents) {
            if (from < 0 || from > 1439 || to <= from || to > 1440 || cents < 0 || cents > 1000) {
                return -2;
            }
            if (spans.size() == 20) {
                return -4;
            }
            spans.add(new long[] {from, to, cents});
            return spans.size();
        }

        long priceOf(int minute) {
            for (int i = spans.size() - 1; i >= 0; i--) {
                if (minute >= spans.get(i)[0] && minute < spans.get(i)[1]) {
                    return spans.get(i)[2];
                }
            }
            return -1;
        }

        long plan(long wish, long until) {
            if (wish < 0 || wish > 1000000 || until < 0 || until > 1440) {
                return -2;
            }
            List<int[]> minutes = new ArrayList<>();
            for (int minute = 0; minute < until; minute++) {
                if (priceOf(minute) >= 0) {
                    minutes.add(new int[] {(int) priceOf(minute), minute});
                }
            }
            minutes.sort(Comparator.<int[]>comparingInt(m -> m[0]).thenComparingInt(m -> m[1]));
            units = new long[1440];
            long cost = 0;
            lacking = wish;
            for (int[] m : minutes) {
                units[m[1]] = Math.min(lacking, allowed());
                lacking -= units[m[1]];
                cost += units[m[1]] * m[0];
            }
            return lacking > 0 ? -1 : cost;
        }

        long car(int weight) {
            if (weight < 0 || weight > 1000 || weights.size() == 10) {
                return weight < 0 || weight > 1000 ? -2 : -4;
            }
            weights.add(weight);
            return weights.size();
        }

        long share(int car, long all, int side) {
            if (car < 1 || car > weights.size()) {
                return -1;
            }
            if (all < 0 || all > 1000000000000L) {
                return -2;
            }
            long lower = 0;
            for (int weight : weights) {
                lower += weight;
            }
            if (lower == 0) {
                return Checks.THROWN;
            }
            long upper = all * weights.get(car - 1);
            for (long f = lower; f >= 2; f--) {
                if (upper % f == 0 && lower % f == 0) {
                    return side == 0 ? upper / f : lower / f;
                }
            }
            return side == 0 ? upper : lower;
        }
    }
}
