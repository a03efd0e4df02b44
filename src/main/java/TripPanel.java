/** A panel of gauges, conditions between them, and trips that conditions vote for. */
public final class TripPanel {
    public static final int NONE = -1, GAP = 2000000000;

    private static final int OUTSIDE = -4, MISSING = -2, STILL_VOTED = -5;
    private static final int CUT = 0, STEADY = 1, MOVED = 2;
    private static final int LESS = 0, LESS_OR_SAME = 1, GREATER = 2, GREATER_OR_SAME = 3, SAME = 4, UNLIKE = 5;
    private static final int GREATEST_NUMBER = 1000000000, GREATEST_BAND = 1000000;
    private static final int GAUGES = 16, CONDITIONS = 24, TRIPS = 8, PARTS = 6, ROW_LENGTH = 12, EVENTS_KEPT = 20;

    private final Gauge[] gauges = new Gauge[GAUGES];
    private final Condition[] conditions = new Condition[CONDITIONS];
    private final Trip[] trips = new Trip[TRIPS];
    private final Latest eventTrips = new Latest(EVENTS_KEPT);
    private final Latest eventScans = new Latest(EVENTS_KEPT);
    private final Latest eventConditions = new Latest(EVENTS_KEPT);
    private int gaugeCount = 0;
    private int scanCount = 0;
    private int movedCount = 0;
    private int steadyCount = 0;
    private int cutCount = 0;
    private int eventCount = 0;

    public TripPanel() {
    }

    public int make(int g, boolean narrow) {
        if (g < 0 || g >= GAUGES) {
            return OUTSIDE;
        }
        if (gauges[g] != null) {
            return 0;
        }
        gauges[g] = new Gauge(narrow);
        gaugeCount++;
        return 1;
    }

    public int limit(int g, boolean high, int n) {
        if (!isNumber(n)) {
            return OUTSIDE;
        }
        Gauge gauge = gaugeAt(g);
        if (gauge == null) {
            return MISSING;
        }
        gauge.setLimit(high, n);
        return 1;
    }

    public int open(int g, boolean high) {
        Gauge gauge = gaugeAt(g);
        if (gauge == null) {
            return MISSING;
        }
        boolean wasThere = gauge.limitNumber(high) != GAP;
        gauge.setLimit(high, GAP);
        return asInt(wasThere);
    }

    public int band(int g, int n) {
        if (n < 0 || n > GREATEST_BAND) {
            return OUTSIDE;
        }
        Gauge gauge = gaugeAt(g);
        if (gauge == null) {
            return MISSING;
        }
        gauge.bandNumber = n;
        return 1;
    }

    public int take(int g, int n) {
        if (!isNumber(n)) {
            return OUTSIDE;
        }
        Gauge gauge = gaugeAt(g);
        if (gauge == null) {
            return MISSING;
        }
        int outcome = gauge.accept(n);
        countTaking(outcome);
        return outcome;
    }

    public int gap(int g) {
        Gauge gauge = gaugeAt(g);
        if (gauge == null) {
            return MISSING;
        }
        boolean hadValue = gauge.hasValue();
        gauge.lose();
        return asInt(hadValue);
    }

    public int clear(int g) {
        Gauge gauge = gaugeAt(g);
        if (gauge == null) {
            return MISSING;
        }
        gauge.forget();
        return 1;
    }

    public int shown(int g) {
        Gauge gauge = gaugeAt(g);
        return gauge == null ? GAP : gauge.number;
    }

    public int mark(int g, boolean greatest) {
        Gauge gauge = gaugeAt(g);
        if (gauge == null) {
            return GAP;
        }
        return greatest ? gauge.greatestNumber : gauge.leastNumber;
    }

    public int stale(int g) {
        Gauge gauge = gaugeAt(g);
        return gauge == null ? MISSING : gauge.staleScans;
    }

    public int stands(int a, int relation, int b) {
        if (!isRelation(relation)) {
            return OUTSIDE;
        }
        Gauge left = gaugeAt(a);
        Gauge right = gaugeAt(b);
        if (left == null || right == null) {
            return MISSING;
        }
        return asInt(left.relatesToGauge(relation, right));
    }

    public int between(int c, int relation, int a, int b, boolean turned) {
        if (!isConditionNumber(c) || !isRelation(relation)) {
            return OUTSIDE;
        }
        Gauge left = gaugeAt(a);
        Gauge right = gaugeAt(b);
        if (left == null || right == null) {
            return MISSING;
        }
        define(c, left, relation, right, GAP, turned);
        return 1;
    }

    public int level(int c, int relation, int a, int n, boolean turned) {
        if (!isConditionNumber(c) || !isRelation(relation) || !isNumber(n)) {
            return OUTSIDE;
        }
        Gauge left = gaugeAt(a);
        if (left == null) {
            return MISSING;
        }
        define(c, left, relation, null, n, turned);
        return 1;
    }

    public int holds(int c) {
        Condition condition = conditionAt(c);
        return condition == null ? MISSING : asInt(condition.isMet());
    }

    public int trip(int t, int votes) {
        if (t < 0 || t >= TRIPS || votes < 1 || votes > PARTS) {
            return OUTSIDE;
        }
        if (trips[t] == null) {
            trips[t] = new Trip();
        }
        trips[t].restart(votes);
        return 1;
    }

    public int part(int t, int c) {
        Trip trip = tripAt(t);
        Condition condition = conditionAt(c);
        if (trip == null || condition == null) {
            return MISSING;
        }
        return trip.append(condition);
    }

    public int scan() {
        scanCount++;
        for (int g = 0; g < GAUGES; g++) {
            if (gauges[g] != null) {
                gauges[g].age();
            }
        }
        int newlyTripped = 0;
        for (int t = 0; t < TRIPS; t++) {
            Trip trip = trips[t];
            if (trip != null && !trip.isTripped && trip.isVoted()) {
                trip.isTripped = true;
                logEvent(t, trip.firstMet());
                newlyTripped++;
            }
        }
        return newlyTripped;
    }

    public int reset(int t) {
        Trip trip = tripAt(t);
        if (trip == null) {
            return MISSING;
        }
        if (trip.isVoted()) {
            return STILL_VOTED;
        }
        boolean wasTripped = trip.isTripped;
        trip.isTripped = false;
        return asInt(wasTripped);
    }

    public int votes(int t) {
        Trip trip = tripAt(t);
        return trip == null ? MISSING : trip.countMet();
    }

    public int tripped(int t) {
        Trip trip = tripAt(t);
        return trip == null ? MISSING : asInt(trip.isTripped);
    }

    public int order(int k) {
        for (int g = 0; g < GAUGES; g++) {
            if (gauges[g] != null && countBefore(g) == k) {
                return g;
            }
        }
        return NONE;
    }

    public int extreme(boolean greatest) {
        int relation = greatest ? GREATER : LESS;
        int best = NONE;
        for (int g = 0; g < GAUGES; g++) {
            Gauge gauge = gauges[g];
            if (gauge != null && gauge.hasValue()) {
                Gauge rival = gaugeAt(best);
                if (rival == null || gauge.relatesToGauge(relation, rival)) {
                    best = g;
                }
            }
        }
        return best;
    }

    public int since(int g, int relation, int n) {
        if (!isRelation(relation) || !isNumber(n)) {
            return OUTSIDE;
        }
        Gauge gauge = gaugeAt(g);
        return gauge == null ? MISSING : gauge.rowPlace(relation, n);
    }

    public int counted(int g, int relation, int n) {
        if (!isRelation(relation) || !isNumber(n)) {
            return OUTSIDE;
        }
        Gauge gauge = gaugeAt(g);
        return gauge == null ? MISSING : gauge.rowCount(relation, n);
    }

    public int event(int k, int what) {
        switch (what) {
            case 0: return eventTrips.at(k);
            case 1: return eventScans.at(k);
            case 2: return eventConditions.at(k);
            default: return NONE;
        }
    }

    public int about(int what) {
        switch (what) {
            case 0: return gaugeCount;
            case 1: return scanCount;
            case 2: return movedCount;
            case 3: return steadyCount;
            case 4: return cutCount;
            case 5: return countTripped();
            case 6: return eventCount;
            default: return NONE;
        }
    }

    private static boolean isNumber(int n) {
        return n >= -GREATEST_NUMBER && n <= GREATEST_NUMBER;
    }

    private static boolean isRelation(int relation) {
        return relation >= LESS && relation <= UNLIKE;
    }

    private static boolean isConditionNumber(int c) {
        return c >= 0 && c < CONDITIONS;
    }

    private static int asInt(boolean yes) {
        return yes ? 1 : 0;
    }

    private static boolean compares(double x, int relation, double y) {
        switch (relation) {
            case LESS: return x < y;
            case LESS_OR_SAME: return x <= y;
            case GREATER: return x > y;
            case GREATER_OR_SAME: return x >= y;
            case SAME: return x == y;
            default: return x != y;
        }
    }

    private Gauge gaugeAt(int g) {
        return g >= 0 && g < GAUGES ? gauges[g] : null;
    }

    private Condition conditionAt(int c) {
        return isConditionNumber(c) ? conditions[c] : null;
    }

    private Trip tripAt(int t) {
        return t >= 0 && t < TRIPS ? trips[t] : null;
    }

    private void countTaking(int outcome) {
        if (outcome == MOVED) {
            movedCount++;
        } else if (outcome == STEADY) {
            steadyCount++;
        } else {
            cutCount++;
        }
    }

    // The old object is used again, so that the trips that have it see what it is now.
    private void define(int c, Gauge left, int relation, Gauge right, int levelNumber, boolean turned) {
        Condition condition = conditions[c];
        if (condition == null) {
            condition = new Condition(c);
            conditions[c] = condition;
        }
        condition.left = left;
        condition.relation = relation;
        condition.right = right;
        condition.levelNumber = levelNumber;
        condition.turned = turned;
    }

    private void logEvent(int t, int c) {
        eventTrips.add(t);
        eventScans.add(scanCount);
        eventConditions.add(c);
        eventCount++;
    }

    private int countTripped() {
        int count = 0;
        for (int t = 0; t < TRIPS; t++) {
            if (trips[t] != null && trips[t].isTripped) {
                count++;
            }
        }
        return count;
    }

    private int countBefore(int g) {
        int count = 0;
        for (int other = 0; other < GAUGES; other++) {
            if (comesBefore(other, g)) {
                count++;
            }
        }
        return count;
    }

    private boolean comesBefore(int a, int b) {
        Gauge first = gaugeAt(a);
        Gauge second = gaugeAt(b);
        if (first == null || second == null) {
            return false;
        }
        if (first.hasValue() != second.hasValue()) {
            return first.hasValue();
        }
        // Of two gaps neither is greater, so that their numbers decide.
        if (first.relatesToGauge(GREATER, second)) {
            return true;
        }
        return a < b && !second.relatesToGauge(GREATER, first);
    }

    /** The latest few of the whole numbers that were added. */
    private static final class Latest {
        private final int[] kept;
        private int next = 0;
        private int size = 0;

        Latest(int length) {
            kept = new int[Math.max(length, 1)];
        }

        void add(int x) {
            kept[next] = x;
            next = next + 1 < kept.length ? next + 1 : 0;
            size = Math.min(size + 1, kept.length);
        }

        int at(int k) {
            if (k < 0 || k >= size) {
                return NONE;
            }
            int place = next - 1 - k;
            return kept[place >= 0 ? place : place + kept.length];
        }

        void empty() {
            next = 0;
            size = 0;
        }
    }

    /** Holds numbers, not values: a number and the gauge's width tell the value. GAP stands for none. */
    private static final class Gauge {
        private final boolean narrow;
        private final Latest row = new Latest(ROW_LENGTH);
        private int number = GAP;
        private int lowNumber = GAP;
        private int highNumber = GAP;
        private int bandNumber = 0;
        private int greatestNumber = GAP;
        private int leastNumber = GAP;
        private int staleScans = 0;

        Gauge(boolean narrow) {
            this.narrow = narrow;
        }

        boolean hasValue() {
            return number != GAP;
        }

        int limitNumber(boolean high) {
            return high ? highNumber : lowNumber;
        }

        void setLimit(boolean high, int n) {
            if (high) {
                highNumber = n;
            } else {
                lowNumber = n;
            }
        }

        int accept(int n) {
            int outcome = outcomeOf(n);
            if (outcome == CUT) {
                number = GAP;
            } else if (outcome == MOVED) {
                number = n;
                markMove();
            }
            row.add(number);
            return outcome;
        }

        void lose() {
            number = GAP;
            row.add(GAP);
        }

        void forget() {
            greatestNumber = GAP;
            leastNumber = GAP;
            row.empty();
        }

        void age() {
            staleScans = hasValue() ? 0 : staleScans + 1;
        }

        boolean relatesToGauge(int relation, Gauge other) {
            if (!hasValue() || !other.hasValue()) {
                return relation == UNLIKE;
            }
            return compares(valueOf(number), relation, other.valueOf(other.number));
        }

        int rowPlace(int relation, int n) {
            int k = 0;
            while (k < row.size && !numbersRelate(row.at(k), relation, n)) {
                k++;
            }
            return k;
        }

        int rowCount(int relation, int n) {
            int count = 0;
            for (int k = 0; k < row.size; k++) {
                if (numbersRelate(row.at(k), relation, n)) {
                    count++;
                }
            }
            return count;
        }

        boolean numbersRelate(int x, int relation, int y) {
            if (x == GAP || y == GAP) {
                return relation == UNLIKE;
            }
            return compares(valueOf(x), relation, valueOf(y));
        }

        // A float is just itself as a double, so that doubles compare narrow values as floats do.
        private double valueOf(int n) {
            if (narrow) {
                return (double) ((float) n / 1000.0f);
            }
            return (double) n / 1000.0;
        }

        private int outcomeOf(int n) {
            // No limit is a GAP, to which nothing is less or greater.
            if (numbersRelate(n, LESS, lowNumber) || numbersRelate(n, GREATER, highNumber)) {
                return CUT;
            }
            if (hasValue() && distance(valueOf(n), valueOf(number)) <= valueOf(bandNumber)) {
                return STEADY;
            }
            return MOVED;
        }

        private double distance(double v, double w) {
            double greater = v > w ? v : w;
            double lesser = v > w ? w : v;
            if (narrow) {
                // The difference of two floats, unlike their order, depends on where it is rounded.
                return (double) ((float) greater - (float) lesser);
            }
            return greater - lesser;
        }

        private void markMove() {
            if (greatestNumber == GAP || numbersRelate(number, GREATER, greatestNumber)) {
                greatestNumber = number;
            }
            if (leastNumber == GAP || numbersRelate(number, LESS, leastNumber)) {
                leastNumber = number;
            }
        }
    }

    /** Between the left gauge and the right one, or, where that is null, a level. */
    private static final class Condition {
        private final int id;
        private Gauge left = null;
        private int relation = UNLIKE;
        private Gauge right = null;
        private int levelNumber = GAP;
        private boolean turned = false;

        Condition(int id) {
            this.id = id;
        }

        boolean isMet() {
            return isRelated() != turned;
        }

        private boolean isRelated() {
            if (left == null) {
                return false;
            }
            if (right == null) {
                return left.numbersRelate(left.number, relation, levelNumber);
            }
            return left.relatesToGauge(relation, right);
        }
    }

    private static final class Trip {
        private final Condition[] parts = new Condition[PARTS];
        private int partCount = 0;
        private int votesNeeded = 1;
        private boolean isTripped = false;

        void restart(int votesNeeded) {
            this.votesNeeded = votesNeeded;
            partCount = 0;
            isTripped = false;
        }

        int append(Condition condition) {
            if (partCount >= PARTS) {
                return NONE;
            }
            parts[partCount] = condition;
            partCount++;
            return partCount;
        }

        int countMet() {
            int count = 0;
            for (int i = 0; i < partCount && i < PARTS; i++) {
                Condition part = parts[i];
                if (part != null && part.isMet()) {
                    count++;
                }
            }
            return count;
        }

        int firstMet() {
            for (int i = 0; i < partCount && i < PARTS; i++) {
                Condition part = parts[i];
                if (part != null && part.isMet()) {
                    return part.id;
                }
            }
            return NONE;
        }

        boolean isVoted() {
            return countMet() >= votesNeeded;
        }
    }
}
