import java.util.ArrayList;
import java.util.Comparator;
import java.util.List;
import java.util.Random;

/**
 * Runs of drawn calls against a second model. The model holds floats and doubles with NaN for a gap,
 * which Java's own comparisons treat as the document treats gaps, so that it shares no idea with the class.
 */
public final class ModelTests {
    private static final int GAP = 2000000000;
    private static final int MOST = 1000000000;
    private static final int RUNS = 3000;
    private static final int CALLS = 512;
    private static final String[] NAMES = {
        "make", "limit", "open", "band", "take", "gap", "clear", "shown", "mark", "stale", "stands", "between", "level",
        "holds", "trip", "part", "scan", "reset", "votes", "tripped", "order", "extreme", "since", "counted", "event",
        "about",
    };
    // How often each is drawn: what changes the state, and the refusals of an empty panel, need not be alike.
    private static final int[] WEIGHTS = {
        3, 3, 2, 3, 16, 3, 1, 3, 3, 3, 4, 4, 4, 4, 2, 6, 6, 4, 3, 3, 4, 3, 4, 4, 5, 4,
    };

    private static final class Reading {
        final int number;
        final float f;
        final double d;

        Reading(int number) {
            this.number = number;
            this.f = number == GAP ? Float.NaN : (float) number / 1000f;
            this.d = number == GAP ? Double.NaN : number / 1000.0;
        }
    }

    private static final class Gauge {
        boolean narrow;
        Reading now = new Reading(GAP);
        Reading low = new Reading(GAP);
        Reading high = new Reading(GAP);
        Reading band = new Reading(0);
        List<Reading> moves = new ArrayList<>();
        List<Reading> row = new ArrayList<>();
        int stale = 0;

        int take(int n) {
            Reading v = new Reading(n);
            int answer;
            if (below(v, low) || below(high, v)) {
                now = new Reading(GAP);
                answer = 0;
            } else if (steady(v)) {
                answer = 1;
            } else {
                now = v;
                moves.add(v);
                answer = 2;
            }
            row.add(now);
            return answer;
        }

        boolean below(Reading x, Reading y) {
            return narrow ? x.f < y.f : x.d < y.d;
        }

        boolean steady(Reading v) {
            return narrow ? Math.abs(v.f - now.f) <= band.f : Math.abs(v.d - now.d) <= band.d;
        }

        int mark(boolean greatest) {
            Reading best = null;
            for (Reading m : moves) {
                if (best == null || (greatest ? below(best, m) : below(m, best))) {
                    best = m;
                }
            }
            return best == null ? GAP : best.number;
        }

        List<Reading> latest() {
            List<Reading> found = new ArrayList<>();
            for (int i = row.size() - 1; i >= 0 && found.size() < 12; i--) {
                found.add(row.get(i));
            }
            return found;
        }

        double asDouble() {
            return narrow ? now.f : now.d;
        }
    }

    private static boolean related(boolean leftNarrow, Reading x, int relation, boolean rightNarrow, Reading y) {
        if (leftNarrow && rightNarrow) {
            switch (relation) {
                case 0: return x.f < y.f;
                case 1: return x.f <= y.f;
                case 2: return x.f > y.f;
                case 3: return x.f >= y.f;
                case 4: return x.f == y.f;
                default: return x.f != y.f;
            }
        }
        double p = leftNarrow ? x.f : x.d;
        double q = rightNarrow ? y.f : y.d;
        switch (relation) {
            case 0: return p < q;
            case 1: return p <= q;
            case 2: return p > q;
            case 3: return p >= q;
            case 4: return p == q;
            default: return p != q;
        }
    }

    private static final class Model {
        final Gauge[] gauges = new Gauge[16];
        /** relation, left gauge, right gauge or -1, level, turned. */
        final int[][] conditions = new int[24][];
        final int[] needed = new int[8];
        final boolean[] tripped = new boolean[8];
        final List<List<Integer>> parts = new ArrayList<>();
        final List<int[]> events = new ArrayList<>();
        final int[] takings = new int[3];
        int scans = 0;

        Model() {
            for (int t = 0; t < 8; t++) {
                parts.add(new ArrayList<>());
            }
        }

        boolean noGauge(int g) {
            return g < 0 || g > 15 || gauges[g] == null;
        }

        boolean noCondition(int c) {
            return c < 0 || c > 23 || conditions[c] == null;
        }

        boolean noTrip(int t) {
            return t < 0 || t > 7 || needed[t] == 0;
        }

        static boolean noNumber(int n) {
            return n < -MOST || n > MOST;
        }

        static boolean noRelation(int r) {
            return r < 0 || r > 5;
        }

        boolean holds(int c) {
            int[] x = conditions[c];
            Gauge a = gauges[x[1]];
            boolean rightNarrow = x[2] < 0 ? a.narrow : gauges[x[2]].narrow;
            Reading right = x[2] < 0 ? new Reading(x[3]) : gauges[x[2]].now;
            boolean plain = related(a.narrow, a.now, x[0], rightNarrow, right);
            return x[4] == 1 ? !plain : plain;
        }

        List<Integer> holding(int t) {
            List<Integer> found = new ArrayList<>();
            for (int c : parts.get(t)) {
                if (holds(c)) {
                    found.add(c);
                }
            }
            return found;
        }

        int scan() {
            scans++;
            for (Gauge g : gauges) {
                if (g != null) {
                    g.stale = g.now.number == GAP ? g.stale + 1 : 0;
                }
            }
            int count = 0;
            for (int t = 0; t < 8; t++) {
                if (!noTrip(t) && !tripped[t] && holding(t).size() >= needed[t]) {
                    tripped[t] = true;
                    events.add(0, new int[] {t, scans, holding(t).get(0)});
                    count++;
                }
            }
            return count;
        }

        List<Integer> ordered() {
            List<Integer> with = new ArrayList<>();
            List<Integer> without = new ArrayList<>();
            for (int g = 0; g < 16; g++) {
                if (gauges[g] != null) {
                    (gauges[g].now.number == GAP ? without : with).add(g);
                }
            }
            // The sort is stable, so that equal values stay by number.
            with.sort(Comparator.comparingDouble(g -> -gauges[g].asDouble()));
            with.addAll(without);
            return with;
        }

        int extreme(boolean greatest) {
            int best = -1;
            for (int g = 15; g >= 0; g--) {
                if (gauges[g] != null && gauges[g].now.number != GAP) {
                    double v = gauges[g].asDouble();
                    if (best < 0 || (greatest ? v >= gauges[best].asDouble() : v <= gauges[best].asDouble())) {
                        best = g;
                    }
                }
            }
            return best;
        }

        int answer(String name, int[] a, boolean flag) {
            switch (name) {
                case "make": return make(a[0], flag);
                case "limit": return limit(a[0], flag, a[1]);
                case "open": return open(a[0], flag);
                case "band": return band(a[0], a[1]);
                case "take": return take(a[0], a[1]);
                case "gap": return gap(a[0]);
                case "clear": return clear(a[0]);
                case "shown": return noGauge(a[0]) ? GAP : gauges[a[0]].now.number;
                case "mark": return noGauge(a[0]) ? GAP : gauges[a[0]].mark(flag);
                case "stale": return noGauge(a[0]) ? -2 : gauges[a[0]].stale;
                case "stands": return stands(a[0], a[1], a[2]);
                case "between": return between(a[0], a[1], a[2], a[3], flag);
                case "level": return level(a[0], a[1], a[2], a[3], flag);
                case "holds": return noCondition(a[0]) ? -2 : holds(a[0]) ? 1 : 0;
                case "trip": return trip(a[0], a[1]);
                case "part": return part(a[0], a[1]);
                case "scan": return scan();
                case "reset": return reset(a[0]);
                case "votes": return noTrip(a[0]) ? -2 : holding(a[0]).size();
                case "tripped": return noTrip(a[0]) ? -2 : tripped[a[0]] ? 1 : 0;
                case "order": return a[0] < 0 || a[0] >= ordered().size() ? -1 : ordered().get(a[0]);
                case "extreme": return extreme(flag);
                case "since": return rows(a[0], a[1], a[2], true);
                case "counted": return rows(a[0], a[1], a[2], false);
                case "event": return event(a[0], a[1]);
                case "about": return about(a[0]);
                default: throw new IllegalStateException(name);
            }
        }

        int make(int g, boolean narrow) {
            if (g < 0 || g > 15) return -4;
            if (gauges[g] != null) return 0;
            gauges[g] = new Gauge();
            gauges[g].narrow = narrow;
            return 1;
        }

        int limit(int g, boolean high, int n) {
            if (noNumber(n)) return -4;
            if (noGauge(g)) return -2;
            if (high) gauges[g].high = new Reading(n); else gauges[g].low = new Reading(n);
            return 1;
        }

        int open(int g, boolean high) {
            if (noGauge(g)) return -2;
            int was = high ? gauges[g].high.number : gauges[g].low.number;
            if (high) gauges[g].high = new Reading(GAP); else gauges[g].low = new Reading(GAP);
            return was == GAP ? 0 : 1;
        }

        int band(int g, int n) {
            if (n < 0 || n > 1000000) return -4;
            if (noGauge(g)) return -2;
            gauges[g].band = new Reading(n);
            return 1;
        }

        int take(int g, int n) {
            if (noNumber(n)) return -4;
            if (noGauge(g)) return -2;
            int answer = gauges[g].take(n);
            takings[answer]++;
            return answer;
        }

        int gap(int g) {
            if (noGauge(g)) return -2;
            int answer = gauges[g].now.number == GAP ? 0 : 1;
            gauges[g].now = new Reading(GAP);
            gauges[g].row.add(gauges[g].now);
            return answer;
        }

        int clear(int g) {
            if (noGauge(g)) return -2;
            gauges[g].moves.clear();
            gauges[g].row.clear();
            return 1;
        }

        int stands(int a, int relation, int b) {
            if (noRelation(relation)) return -4;
            if (noGauge(a) || noGauge(b)) return -2;
            return related(gauges[a].narrow, gauges[a].now, relation, gauges[b].narrow, gauges[b].now) ? 1 : 0;
        }

        int between(int c, int relation, int a, int b, boolean turned) {
            if (c < 0 || c > 23 || noRelation(relation)) return -4;
            if (noGauge(a) || noGauge(b)) return -2;
            conditions[c] = new int[] {relation, a, b, 0, turned ? 1 : 0};
            return 1;
        }

        int level(int c, int relation, int a, int n, boolean turned) {
            if (c < 0 || c > 23 || noRelation(relation) || noNumber(n)) return -4;
            if (noGauge(a)) return -2;
            conditions[c] = new int[] {relation, a, -1, n, turned ? 1 : 0};
            return 1;
        }

        int trip(int t, int votes) {
            if (t < 0 || t > 7 || votes < 1 || votes > 6) return -4;
            needed[t] = votes;
            tripped[t] = false;
            parts.get(t).clear();
            return 1;
        }

        int part(int t, int c) {
            if (noTrip(t) || noCondition(c)) return -2;
            if (parts.get(t).size() == 6) return -1;
            parts.get(t).add(c);
            return parts.get(t).size();
        }

        int reset(int t) {
            if (noTrip(t)) return -2;
            if (holding(t).size() >= needed[t]) return -5;
            int answer = tripped[t] ? 1 : 0;
            tripped[t] = false;
            return answer;
        }

        int rows(int g, int relation, int n, boolean since) {
            if (noRelation(relation) || noNumber(n)) return -4;
            if (noGauge(g)) return -2;
            boolean narrow = gauges[g].narrow;
            int standing = 0;
            int seen = 0;
            for (Reading r : gauges[g].latest()) {
                if (related(narrow, r, relation, narrow, new Reading(n))) {
                    standing++;
                    if (since) return seen;
                }
                seen++;
            }
            return since ? seen : standing;
        }

        int event(int k, int what) {
            if (k < 0 || k >= Math.min(20, events.size()) || what < 0 || what > 2) return -1;
            return events.get(k)[what];
        }

        int about(int what) {
            int count = 0;
            switch (what) {
                case 0:
                    for (Gauge g : gauges) count += g == null ? 0 : 1;
                    return count;
                case 1: return scans;
                case 2: return takings[2];
                case 3: return takings[1];
                case 4: return takings[0];
                case 5:
                    for (boolean t : tripped) count += t ? 1 : 0;
                    return count;
                case 6: return events.size();
                default: return -1;
            }
        }
    }

    private static int real(TripPanel x, String name, int[] a, boolean flag) {
        switch (name) {
            case "make": return x.make(a[0], flag);
            case "limit": return x.limit(a[0], flag, a[1]);
            case "open": return x.open(a[0], flag);
            case "band": return x.band(a[0], a[1]);
            case "take": return x.take(a[0], a[1]);
            case "gap": return x.gap(a[0]);
            case "clear": return x.clear(a[0]);
            case "shown": return x.shown(a[0]);
            case "mark": return x.mark(a[0], flag);
            case "stale": return x.stale(a[0]);
            case "stands": return x.stands(a[0], a[1], a[2]);
            case "between": return x.between(a[0], a[1], a[2], a[3], flag);
            case "level": return x.level(a[0], a[1], a[2], a[3], flag);
            case "holds": return x.holds(a[0]);
            case "trip": return x.trip(a[0], a[1]);
            case "part": return x.part(a[0], a[1]);
            case "scan": return x.scan();
            case "reset": return x.reset(a[0]);
            case "votes": return x.votes(a[0]);
            case "tripped": return x.tripped(a[0]);
            case "order": return x.order(a[0]);
            case "extreme": return x.extreme(flag);
            case "since": return x.since(a[0], a[1], a[2]);
            case "counted": return x.counted(a[0], a[1], a[2]);
            case "event": return x.event(a[0], a[1]);
            case "about": return x.about(a[0]);
            default: throw new IllegalStateException(name);
        }
    }

    /** Draws arguments: mostly ones that are there, so that a run gets somewhere, and now and then wild ones. */
    private static final class Drawer {
        final Random random;
        final int gauges;
        final int conditions;
        final int trips;
        final int numberKind;

        Drawer(long seed) {
            random = new Random(seed);
            gauges = 1 + random.nextInt(16);
            conditions = 1 + random.nextInt(24);
            trips = 1 + random.nextInt(8);
            numberKind = random.nextInt(5);
        }

        int place(int bound, int limit) {
            int kind = random.nextInt(60);
            if (kind == 0) return random.nextInt();
            if (kind == 1) return -1;
            if (kind == 2) return limit;
            if (kind == 3) return limit - 1;
            return random.nextInt(bound);
        }

        int number() {
            int kind = random.nextInt(50);
            if (kind == 0) return random.nextInt();
            if (kind == 1) return MOST + random.nextInt(2);
            if (kind == 2) return -MOST - random.nextInt(2);
            if (kind == 3) return GAP;
            switch (numberKind) {
                case 0: return random.nextInt(21) - 10;
                case 1: return 100 * (random.nextInt(21) - 10);
                case 2: return 16777210 + random.nextInt(30);
                case 3: return MOST - random.nextInt(200);
                default: return random.nextInt(2 * MOST) - MOST;
            }
        }

        int band() {
            int kind = random.nextInt(30);
            if (kind == 0) return 1000000 + random.nextInt(2);
            if (kind == 1) return -1;
            if (kind == 2) return random.nextInt();
            return numberKind == 1 ? 100 * random.nextInt(6) : random.nextInt(numberKind == 4 ? 1000001 : 12);
        }

        int[] arguments(String name) {
            int g = place(gauges, 16);
            int c = place(conditions, 24);
            int t = place(trips, 8);
            int r = place(6, 6);
            switch (name) {
                case "limit": case "take": return new int[] {g, number()};
                case "band": return new int[] {g, band()};
                case "stands": return new int[] {g, r, place(gauges, 16)};
                case "between": return new int[] {c, r, g, place(gauges, 16)};
                case "level": return new int[] {c, r, g, number()};
                case "holds": return new int[] {c};
                case "trip": return new int[] {t, place(random.nextInt(7) + 1, 7)};
                case "part": return new int[] {t, c};
                case "reset": case "votes": case "tripped": return new int[] {t};
                case "since": case "counted": return new int[] {g, r, number()};
                case "event": return new int[] {place(22, 20), place(3, 3)};
                case "about": return new int[] {place(7, 7)};
                default: return new int[] {g};
            }
        }

        String name() {
            int sum = 0;
            for (int w : WEIGHTS) sum += w;
            int left = random.nextInt(sum);
            int i = 0;
            while (left >= WEIGHTS[i]) {
                left -= WEIGHTS[i];
                i++;
            }
            return NAMES[i];
        }
    }

    private static boolean runGoesWell(long seed) {
        Drawer drawer = new Drawer(seed);
        TripPanel x = new TripPanel();
        Model model = new Model();
        StringBuilder told = new StringBuilder();
        for (int i = 0; i < CALLS; i++) {
            // The first calls make most gauges, for a run that only refuses shows little.
            String name = i < drawer.gauges ? "make" : drawer.name();
            int[] a = drawer.arguments(name);
            boolean flag = drawer.random.nextBoolean();
            int want = model.answer(name, a, flag);
            int got = real(x, name, a, flag);
            told.append(name).append(java.util.Arrays.toString(a)).append(flag).append(" -> ").append(got).append('\n');
            if (got != want) {
                System.out.println("seed " + seed + ", call " + i + ", due is " + want + ":\n" + told);
                return false;
            }
        }
        return true;
    }

    public static void main(String[] args) {
        for (long seed = 1; seed <= RUNS; seed++) {
            if (!runGoesWell(seed)) {
                System.exit(1);
            }
        }
        System.out.println(RUNS + " runs are as due");
    }
}
