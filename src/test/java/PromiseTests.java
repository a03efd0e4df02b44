/** For each promise of the document: ordinary inputs, the edges that it names, and wrong inputs. */
public final class PromiseTests {
    private static final int GAP = 2000000000;
    private static final int MOST = 1000000000;
    private static int wrong = 0;
    private static int promise = 0;
    private static int check = 0;

    private static void due(int got, int want) {
        check++;
        if (got != want) {
            wrong++;
            int line = Thread.currentThread().getStackTrace()[2].getLineNumber();
            System.out.println("promise " + promise + ", line " + line + ": answered " + got + ", due is " + want);
        }
    }

    public static void main(String[] args) {
        promise = 1; newObject();
        promise = 2; make();
        promise = 3; limit();
        promise = 4; open();
        promise = 5; band();
        promise = 6; take(); takeNarrow();
        promise = 7; gap();
        promise = 8; clear();
        promise = 9; shown();
        promise = 10; mark();
        promise = 11; stale();
        promise = 12; stands();
        promise = 13; between();
        promise = 14; level();
        promise = 15; holds();
        promise = 16; trip();
        promise = 17; part();
        promise = 18; scan();
        promise = 19; reset();
        promise = 20; votes();
        promise = 21; tripped();
        promise = 22; order();
        promise = 23; extreme();
        promise = 24; since();
        promise = 25; counted();
        promise = 26; event(); eventsKept();
        promise = 27; about();
        System.out.println(wrong == 0 ? check + " answers are as due" : wrong + " answers are not as due");
        if (wrong != 0) {
            System.exit(1);
        }
    }

    /** A panel with gauges 0 (wide), 1 (narrow) and 2 (wide), none of which has a value. */
    private static TripPanel three() {
        TripPanel x = new TripPanel();
        x.make(0, false);
        x.make(1, true);
        x.make(2, false);
        return x;
    }

    /** A panel whose condition 5 holds while gauge 0 is above 1000, condition 6 while gauge 2 is. */
    private static TripPanel withConditions() {
        TripPanel x = three();
        x.level(5, 2, 0, 1000, false);
        x.level(6, 2, 2, 1000, false);
        return x;
    }

    private static void newObject() {
        TripPanel x = new TripPanel();
        for (int i = -1; i <= 24; i++) {
            due(x.shown(i), GAP);
            due(x.stale(i), -2);
            due(x.holds(i), -2);
            due(x.tripped(i), -2);
        }
        due(x.order(0), -1);
        due(x.extreme(true), -1);
        due(x.extreme(false), -1);
        due(x.event(0, 0), -1);
        for (int what = 0; what <= 6; what++) {
            due(x.about(what), 0);
        }
        x.make(0, false);
        due(new TripPanel().about(0), 0);
    }

    private static void make() {
        TripPanel x = new TripPanel();
        due(x.make(-1, false), -4);
        due(x.make(16, true), -4);
        due(x.make(Integer.MIN_VALUE, true), -4);
        due(x.make(Integer.MAX_VALUE, false), -4);
        due(x.about(0), 0);
        due(x.make(0, false), 1);
        due(x.make(15, true), 1);
        due(x.about(0), 2);
        x.take(0, 16777217);
        due(x.make(0, true), 0);
        due(x.shown(0), 16777217);
        // It stays wide: as floats these two would be the same.
        due(x.take(0, 16777216), 2);
        due(x.make(15, false), 0);
        x.take(15, 16777217);
        due(x.take(15, 16777216), 1);
        due(x.about(0), 2);
    }

    private static void limit() {
        TripPanel x = three();
        due(x.limit(0, true, MOST + 1), -4);
        due(x.limit(0, false, -MOST - 1), -4);
        due(x.limit(9, true, MOST + 1), -4);
        due(x.limit(9, true, GAP), -4);
        due(x.limit(9, true, 0), -2);
        due(x.limit(-1, true, 0), -2);
        due(x.limit(16, true, 0), -2);
        due(x.limit(0, true, MOST), 1);
        due(x.limit(0, false, -MOST), 1);
        due(x.take(0, MOST), 2);
        due(x.take(0, -MOST), 2);
        due(x.limit(0, true, -MOST - 1), -4);
        due(x.limit(0, false, 10), 1);
        due(x.shown(0), -MOST);
        due(x.take(0, 9), 0);
        due(x.take(0, 10), 2);
        due(x.limit(0, true, 20), 1);
        due(x.take(0, 20), 2);
        due(x.take(0, 21), 0);
        // A LOW limit above the HIGH one cuts all.
        due(x.limit(0, false, 30), 1);
        due(x.take(0, 25), 0);
        due(x.take(0, 35), 0);
        due(x.take(0, 15), 0);
        // 16777217 is 16777216 as a float, 16777219 is 16777220.
        due(x.limit(1, true, 16777216), 1);
        due(x.take(1, 16777217), 2);
        due(x.take(1, 16777219), 0);
        due(x.open(1, true), 1);
        due(x.limit(1, false, 16777221), 1);
        due(x.take(1, 16777219), 2);
        due(x.take(1, 16777218), 0);
        due(x.take(2, 21), 2);
    }

    private static void open() {
        TripPanel x = three();
        due(x.open(3, true), -2);
        due(x.open(-1, false), -2);
        due(x.open(16, false), -2);
        due(x.open(0, true), 0);
        due(x.open(0, false), 0);
        x.limit(0, true, 0);
        x.limit(0, false, 0);
        due(x.open(0, true), 1);
        due(x.open(0, true), 0);
        due(x.take(0, 1), 2);
        due(x.take(0, -1), 0);
        due(x.open(0, false), 1);
        due(x.open(0, false), 0);
        due(x.take(0, -1), 2);
    }

    private static void band() {
        TripPanel x = three();
        due(x.band(0, -1), -4);
        due(x.band(0, 1000001), -4);
        due(x.band(7, -1), -4);
        due(x.band(7, 0), -2);
        due(x.band(-1, 0), -2);
        due(x.band(16, 0), -2);
        due(x.take(0, 5000), 2);
        due(x.take(0, 5000), 1);
        due(x.take(0, 5001), 2);
        due(x.band(0, 1000000), 1);
        due(x.band(0, 1000001), -4);
        due(x.take(0, 1005001), 1);
        due(x.take(0, -994999), 1);
        due(x.take(0, 1005002), 2);
        due(x.shown(0), 1005002);
        due(x.band(0, 0), 1);
        due(x.take(0, 1005001), 2);
        due(x.take(0, 1005001), 1);
    }

    private static void take() {
        TripPanel x = three();
        due(x.take(0, MOST + 1), -4);
        due(x.take(0, -MOST - 1), -4);
        due(x.take(0, GAP), -4);
        due(x.take(3, GAP), -4);
        due(x.take(3, 0), -2);
        due(x.take(-1, 0), -2);
        due(x.take(16, 0), -2);
        due(x.counted(0, 5, 0), 0);
        due(x.take(0, 0), 2);
        due(x.take(0, 0), 1);
        // CUT goes before STEADY.
        x.limit(0, true, -5);
        due(x.take(0, 0), 0);
        due(x.shown(0), GAP);
        due(x.take(0, 0), 0);
        due(x.take(0, -5), 2);
        // STEADY keeps what was there, so that slow drift ends in a move.
        x.open(0, true);
        x.band(0, 10);
        due(x.take(0, 5), 1);
        due(x.shown(0), -5);
        due(x.take(0, 6), 2);
        due(x.take(0, -4), 1);
        due(x.take(0, -5), 2);
        // In doubles 0.8 less 0.7 is greater than 0.1, and 0.3 less 0.2 is not.
        x.band(2, 100);
        due(x.take(2, 700), 2);
        due(x.take(2, 800), 2);
        due(x.take(2, 200), 2);
        due(x.take(2, 300), 1);
        due(x.shown(2), 200);
        due(x.take(2, 700), 2);
        due(x.gap(2), 1);
        due(x.take(2, 700), 2);
    }

    private static void takeNarrow() {
        TripPanel x = three();
        x.band(1, 100);
        // In floats 0.3 less 0.2 is greater than 0.1.
        due(x.take(1, 200), 2);
        due(x.take(1, 300), 2);
        due(x.take(1, 200), 2);
        // In doubles the floats of 0.046 and 0.008 are farther apart than the float of 0.038.
        x.band(1, 38);
        due(x.take(1, 8), 2);
        due(x.take(1, 46), 1);
        due(x.take(1, 100), 2);
        due(x.take(1, 46), 2);
        due(x.take(1, 8), 1);
        due(x.shown(1), 46);
        // 16777219 as a float is 16777220, and is divided then.
        x.band(1, 0);
        due(x.take(1, 16777219), 2);
        due(x.take(1, 16777221), 1);
        due(x.take(1, 16777220), 1);
        due(x.take(1, 16777218), 2);
        due(x.take(1, 16777219), 2);
        due(x.take(1, MOST), 2);
        due(x.take(1, MOST - 1), 1);
        due(x.shown(1), MOST);
        due(x.take(1, -MOST), 2);
        due(x.take(1, 1 - MOST), 1);
        due(x.shown(1), -MOST);
    }

    private static void gap() {
        TripPanel x = three();
        due(x.gap(3), -2);
        due(x.gap(-1), -2);
        due(x.gap(16), -2);
        due(x.gap(0), 0);
        x.take(0, 0);
        due(x.gap(0), 1);
        due(x.shown(0), GAP);
        due(x.gap(0), 0);
        due(x.counted(0, 5, 0), 3);
        due(x.counted(0, 4, 0), 1);
        due(x.mark(0, true), 0);
        due(x.about(4), 0);
    }

    private static void clear() {
        TripPanel x = three();
        due(x.clear(3), -2);
        due(x.clear(-1), -2);
        due(x.clear(16), -2);
        due(x.clear(0), 1);
        x.limit(0, true, 100);
        x.band(0, 5);
        x.take(0, 50);
        x.take(0, 80);
        x.gap(1);
        x.scan();
        due(x.clear(0), 1);
        due(x.clear(1), 1);
        due(x.mark(0, true), GAP);
        due(x.mark(0, false), GAP);
        due(x.counted(0, 4, 80), 0);
        due(x.counted(0, 5, 81), 0);
        due(x.since(0, 4, 80), 0);
        due(x.shown(0), 80);
        due(x.stale(1), 1);
        due(x.about(2), 2);
        due(x.take(0, 84), 1);
        due(x.mark(0, true), GAP);
        due(x.counted(0, 4, 80), 1);
        due(x.take(0, 101), 0);
        due(x.take(0, 7), 2);
        due(x.mark(0, true), 7);
        due(x.mark(0, false), 7);
        due(x.counted(0, 5, 0), 3);
    }

    private static void shown() {
        TripPanel x = three();
        due(x.shown(0), GAP);
        due(x.shown(3), GAP);
        due(x.shown(-1), GAP);
        due(x.shown(16), GAP);
        due(x.shown(Integer.MIN_VALUE), GAP);
        x.take(0, -MOST);
        due(x.shown(0), -MOST);
        due(x.shown(2), GAP);
        x.take(1, 16777217);
        due(x.shown(1), 16777217);
        x.take(1, 16777216);
        due(x.shown(1), 16777217);
    }

    private static void mark() {
        TripPanel x = three();
        due(x.mark(0, true), GAP);
        due(x.mark(0, false), GAP);
        due(x.mark(3, true), GAP);
        due(x.mark(-1, true), GAP);
        due(x.mark(16, false), GAP);
        x.take(0, -10);
        due(x.mark(0, true), -10);
        due(x.mark(0, false), -10);
        x.take(0, -30);
        x.take(0, -20);
        due(x.mark(0, true), -10);
        due(x.mark(0, false), -30);
        // What was STEADY or CUT leaves no mark.
        x.band(0, 100);
        x.take(0, 50);
        x.limit(0, true, 200);
        x.take(0, 500);
        due(x.mark(0, true), -10);
        x.take(0, 200);
        due(x.mark(0, true), 200);
        due(x.mark(0, false), -30);
        // Of the same value the first number stays, though others were moved to.
        x.take(1, 16777217);
        x.gap(1);
        x.take(1, 16777216);
        due(x.shown(1), 16777216);
        due(x.mark(1, true), 16777217);
        due(x.mark(1, false), 16777217);
    }

    private static void stale() {
        TripPanel x = three();
        due(x.stale(3), -2);
        due(x.stale(-1), -2);
        due(x.stale(16), -2);
        due(x.stale(0), 0);
        x.take(1, 0);
        x.scan();
        due(x.stale(0), 1);
        due(x.stale(1), 0);
        x.scan();
        due(x.stale(0), 2);
        x.make(3, false);
        due(x.stale(3), 0);
        x.take(0, 0);
        x.gap(1);
        due(x.stale(0), 2);
        due(x.stale(1), 0);
        x.scan();
        due(x.stale(0), 0);
        due(x.stale(1), 1);
        due(x.stale(2), 3);
        due(x.stale(3), 1);
        x.gap(0);
        x.scan();
        due(x.stale(0), 1);
    }

    private static void allRelations(TripPanel x, int a, int b, int... want) {
        for (int relation = 0; relation < 6; relation++) {
            due(x.stands(a, relation, b), want[relation]);
        }
    }

    private static void stands() {
        TripPanel x = three();
        due(x.stands(0, -1, 2), -4);
        due(x.stands(0, 6, 2), -4);
        due(x.stands(9, 6, 2), -4);
        due(x.stands(9, 0, 2), -2);
        due(x.stands(0, 0, 9), -2);
        due(x.stands(-1, 0, 0), -2);
        due(x.stands(0, 0, 16), -2);
        allRelations(x, 0, 0, 0, 0, 0, 0, 0, 1);
        allRelations(x, 0, 2, 0, 0, 0, 0, 0, 1);
        x.take(0, 100);
        allRelations(x, 0, 2, 0, 0, 0, 0, 0, 1);
        allRelations(x, 2, 0, 0, 0, 0, 0, 0, 1);
        allRelations(x, 0, 0, 0, 1, 0, 1, 1, 0);
        // 0.1f is greater than 0.1, 0.7f is less than 0.7, 0.5f is 0.5.
        x.take(1, 100);
        allRelations(x, 1, 0, 0, 0, 1, 1, 0, 1);
        allRelations(x, 0, 1, 1, 1, 0, 0, 0, 1);
        x.take(0, 700);
        x.take(1, 700);
        allRelations(x, 1, 0, 1, 1, 0, 0, 0, 1);
        x.take(0, -500);
        x.take(1, -500);
        allRelations(x, 1, 0, 0, 1, 0, 1, 1, 0);
        x.make(4, true);
        x.take(1, 16777217);
        x.take(4, 16777216);
        allRelations(x, 1, 4, 0, 1, 0, 1, 1, 0);
        x.take(0, 16777217);
        x.take(2, 16777216);
        allRelations(x, 0, 2, 0, 0, 1, 1, 0, 1);
    }

    private static void between() {
        TripPanel x = three();
        due(x.between(-1, 0, 0, 2, false), -4);
        due(x.between(24, 0, 0, 2, false), -4);
        due(x.between(0, -1, 0, 2, false), -4);
        due(x.between(0, 6, 0, 2, false), -4);
        due(x.between(0, 6, 9, 2, false), -4);
        due(x.between(0, 0, 9, 2, false), -2);
        due(x.between(0, 0, 0, 9, false), -2);
        due(x.between(0, 0, 0, -1, false), -2);
        due(x.between(0, 0, 16, 0, false), -2);
        due(x.holds(0), -2);
        due(x.between(0, 0, 0, 2, false), 1);
        due(x.between(23, 5, 0, 0, true), 1);
        due(x.holds(0), 0);
        due(x.holds(23), 0);
        x.take(0, 1);
        x.take(2, 2);
        due(x.holds(0), 1);
        due(x.holds(23), 1);
        due(x.between(0, 2, 0, 2, false), 1);
        due(x.holds(0), 0);
        // What is refused leaves the condition as it was.
        due(x.between(0, 0, 0, 9, false), -2);
        due(x.holds(0), 0);
        due(x.level(0, 4, 0, 1, false), 1);
        due(x.holds(0), 1);
        due(x.between(0, 4, 0, 2, false), 1);
        due(x.holds(0), 0);
    }

    private static void level() {
        TripPanel x = three();
        due(x.level(-1, 0, 0, 0, false), -4);
        due(x.level(24, 0, 0, 0, false), -4);
        due(x.level(0, -1, 0, 0, false), -4);
        due(x.level(0, 6, 0, 0, false), -4);
        due(x.level(0, 0, 0, MOST + 1, false), -4);
        due(x.level(0, 0, 0, -MOST - 1, false), -4);
        due(x.level(0, 0, 0, GAP, false), -4);
        due(x.level(0, 0, 9, GAP, false), -4);
        due(x.level(0, 0, 9, 0, false), -2);
        due(x.level(0, 0, -1, 0, false), -2);
        due(x.level(0, 0, 16, 0, false), -2);
        due(x.holds(0), -2);
        due(x.level(0, 3, 0, MOST, false), 1);
        due(x.level(23, 3, 0, -MOST, false), 1);
        due(x.holds(0), 0);
        due(x.holds(23), 0);
        x.take(0, -MOST);
        due(x.holds(23), 1);
        x.take(0, MOST);
        due(x.holds(0), 1);
        // The level has the value that it has for that gauge.
        due(x.level(1, 4, 1, 100, false), 1);
        x.take(1, 100);
        due(x.holds(1), 1);
        due(x.level(1, 4, 1, 16777216, false), 1);
        x.take(1, 16777217);
        due(x.holds(1), 1);
        due(x.between(0, 4, 0, 0, false), 1);
        due(x.level(0, 4, 0, 0, false), 1);
        due(x.holds(0), 0);
    }

    private static void holds() {
        TripPanel x = three();
        due(x.holds(-1), -2);
        due(x.holds(24), -2);
        due(x.holds(3), -2);
        for (int relation = 0; relation < 6; relation++) {
            x.level(relation, relation, 0, 10, false);
            x.level(relation + 6, relation, 0, 10, true);
            x.between(relation + 12, relation, 0, 2, false);
            x.between(relation + 18, relation, 0, 2, true);
        }
        allConditions(x, 0, 0, 0, 0, 0, 1);
        x.take(2, 10);
        allConditions(x, 0, 0, 0, 0, 0, 1);
        x.take(0, 9);
        allConditions(x, 1, 1, 0, 0, 0, 1);
        x.take(0, 10);
        allConditions(x, 0, 1, 0, 1, 1, 0);
        x.take(0, 11);
        allConditions(x, 0, 0, 1, 1, 0, 1);
        x.limit(0, true, 0);
        x.take(0, 11);
        allConditions(x, 0, 0, 0, 0, 0, 1);
    }

    private static void allConditions(TripPanel x, int... want) {
        for (int relation = 0; relation < 6; relation++) {
            due(x.holds(relation), want[relation]);
            due(x.holds(relation + 6), 1 - want[relation]);
            due(x.holds(relation + 12), want[relation]);
            due(x.holds(relation + 18), 1 - want[relation]);
        }
    }

    private static void trip() {
        TripPanel x = withConditions();
        due(x.trip(-1, 1), -4);
        due(x.trip(8, 1), -4);
        due(x.trip(0, 0), -4);
        due(x.trip(0, 7), -4);
        due(x.trip(0, -1), -4);
        due(x.tripped(0), -2);
        due(x.trip(0, 1), 1);
        due(x.trip(7, 6), 1);
        due(x.scan(), 0);
        x.part(0, 5);
        x.take(0, 2000);
        due(x.scan(), 1);
        due(x.tripped(0), 1);
        due(x.trip(0, 7), -4);
        due(x.tripped(0), 1);
        due(x.votes(0), 1);
        due(x.trip(0, 2), 1);
        due(x.tripped(0), 0);
        due(x.votes(0), 0);
        due(x.about(5), 0);
        due(x.part(0, 5), 1);
        due(x.scan(), 0);
        due(x.part(0, 5), 2);
        due(x.scan(), 1);
    }

    private static void part() {
        TripPanel x = withConditions();
        x.trip(0, 1);
        due(x.part(1, 5), -2);
        due(x.part(-1, 5), -2);
        due(x.part(8, 5), -2);
        due(x.part(0, 4), -2);
        due(x.part(0, -1), -2);
        due(x.part(0, 24), -2);
        for (int i = 1; i <= 6; i++) {
            due(x.part(0, i == 2 ? 6 : 5), i);
        }
        due(x.part(0, 5), -1);
        due(x.part(0, 4), -2);
        x.take(0, 2000);
        due(x.votes(0), 5);
        x.take(2, 2000);
        due(x.votes(0), 6);
        x.level(5, 2, 0, 3000, false);
        due(x.votes(0), 1);
        x.trip(0, 1);
        due(x.part(0, 6), 1);
        due(x.votes(0), 1);
    }

    private static void scan() {
        TripPanel x = withConditions();
        due(x.scan(), 0);
        due(x.about(1), 1);
        for (int t = 0; t < 8; t++) {
            x.trip(t, t < 4 ? 1 : 2);
            x.part(t, 6);
            x.part(t, 5);
        }
        due(x.scan(), 0);
        x.take(0, 2000);
        due(x.tripped(0), 0);
        due(x.scan(), 4);
        due(x.scan(), 0);
        due(x.event(0, 0), 3);
        due(x.event(3, 0), 0);
        due(x.event(0, 1), 3);
        due(x.event(0, 2), 5);
        x.take(2, 2000);
        due(x.scan(), 4);
        due(x.event(0, 0), 7);
        due(x.event(0, 1), 5);
        due(x.event(0, 2), 6);
        // They stay so when nothing holds any more.
        x.gap(0);
        x.gap(2);
        due(x.scan(), 0);
        due(x.about(5), 8);
        due(x.about(1), 6);
    }

    private static void reset() {
        TripPanel x = withConditions();
        x.trip(0, 1);
        due(x.reset(1), -2);
        due(x.reset(-1), -2);
        due(x.reset(8), -2);
        x.part(0, 5);
        due(x.reset(0), 0);
        x.take(0, 2000);
        due(x.reset(0), -5);
        due(x.tripped(0), 0);
        x.scan();
        due(x.reset(0), -5);
        due(x.tripped(0), 1);
        x.take(0, 0);
        due(x.reset(0), 1);
        due(x.tripped(0), 0);
        due(x.reset(0), 0);
        due(x.about(5), 0);
        due(x.about(6), 1);
        x.take(0, 2000);
        due(x.scan(), 1);
        due(x.about(6), 2);
    }

    private static void votes() {
        TripPanel x = withConditions();
        x.trip(7, 6);
        due(x.votes(0), -2);
        due(x.votes(-1), -2);
        due(x.votes(8), -2);
        due(x.votes(7), 0);
        x.part(7, 5);
        x.part(7, 6);
        x.part(7, 5);
        due(x.votes(7), 0);
        x.take(0, 2000);
        due(x.votes(7), 2);
        x.take(2, 2000);
        due(x.votes(7), 3);
        x.gap(0);
        due(x.votes(7), 1);
        x.level(5, 2, 0, 1000, true);
        due(x.votes(7), 3);
    }

    private static void tripped() {
        TripPanel x = withConditions();
        due(x.tripped(0), -2);
        due(x.tripped(-1), -2);
        due(x.tripped(8), -2);
        x.trip(0, 1);
        x.trip(1, 2);
        x.part(0, 5);
        x.part(1, 5);
        x.take(0, 2000);
        due(x.tripped(0), 0);
        x.scan();
        due(x.tripped(0), 1);
        due(x.tripped(1), 0);
        x.take(0, 0);
        due(x.tripped(0), 1);
        x.scan();
        due(x.tripped(0), 1);
    }

    private static void order() {
        TripPanel x = new TripPanel();
        due(x.order(0), -1);
        x.make(9, false);
        x.make(4, true);
        x.make(15, false);
        x.make(0, true);
        orderIs(x, 0, 4, 9, 15);
        x.take(9, -1000);
        orderIs(x, 9, 0, 4, 15);
        x.take(15, 100);
        orderIs(x, 15, 9, 0, 4);
        // 0.1f is greater than 0.1.
        x.take(4, 100);
        orderIs(x, 4, 15, 9, 0);
        x.take(0, 99);
        orderIs(x, 4, 15, 0, 9);
        x.take(0, 100);
        orderIs(x, 0, 4, 15, 9);
        x.take(9, 500);
        x.take(4, 500);
        orderIs(x, 4, 9, 0, 15);
        x.gap(4);
        orderIs(x, 9, 0, 15, 4);
        x.gap(0);
        orderIs(x, 9, 15, 0, 4);
    }

    private static void orderIs(TripPanel x, int... want) {
        for (int k = 0; k < want.length; k++) {
            due(x.order(k), want[k]);
        }
        due(x.order(want.length), -1);
        due(x.order(-1), -1);
        due(x.order(Integer.MIN_VALUE), -1);
        due(x.order(Integer.MAX_VALUE), -1);
    }

    private static void extreme() {
        TripPanel x = three();
        due(x.extreme(true), -1);
        due(x.extreme(false), -1);
        x.take(2, -7);
        due(x.extreme(true), 2);
        due(x.extreme(false), 2);
        x.take(0, -7);
        due(x.extreme(true), 0);
        due(x.extreme(false), 0);
        x.take(1, 5);
        due(x.extreme(true), 1);
        due(x.extreme(false), 0);
        x.take(2, -8);
        due(x.extreme(false), 2);
        // 0.1f is greater than 0.1.
        x.take(0, 100);
        x.take(1, 100);
        due(x.extreme(true), 1);
        x.gap(1);
        due(x.extreme(true), 0);
        x.gap(2);
        due(x.extreme(false), 0);
        x.gap(0);
        due(x.extreme(true), -1);
    }

    private static void rowRefusals(TripPanel x, boolean since) {
        int[][] calls = {
            {0, -1, 0, -4}, {0, 6, 0, -4}, {0, 0, MOST + 1, -4}, {0, 0, -MOST - 1, -4}, {0, 5, GAP, -4},
            {9, 6, 0, -4}, {9, 0, GAP, -4}, {9, 0, 0, -2}, {-1, 0, 0, -2}, {16, 0, 0, -2},
        };
        for (int[] c : calls) {
            due(since ? x.since(c[0], c[1], c[2]) : x.counted(c[0], c[1], c[2]), c[3]);
        }
    }

    /** Gauge 0 has, from the latest on, 10, 30, GAP, 20, 20 in its row. */
    private static TripPanel withRow() {
        TripPanel x = three();
        x.take(0, 20);
        x.take(0, 20);
        x.gap(0);
        x.take(0, 30);
        x.take(0, 10);
        return x;
    }

    private static void since() {
        TripPanel x = withRow();
        rowRefusals(x, true);
        due(x.since(2, 5, 0), 0);
        due(x.since(0, 0, 20), 0);
        due(x.since(0, 0, 10), 5);
        due(x.since(0, 1, 10), 0);
        due(x.since(0, 2, 10), 1);
        due(x.since(0, 3, 31), 5);
        due(x.since(0, 3, 30), 1);
        due(x.since(0, 4, 20), 3);
        due(x.since(0, 5, 10), 1);
        x.take(0, MOST);
        due(x.since(0, 3, MOST), 0);
        due(x.since(0, 1, -MOST), 6);
        for (int i = 0; i < 20; i++) {
            due(x.since(0, 4, MOST), Math.min(i, 12));
            x.gap(0);
        }
        due(x.since(0, 5, 0), 0);
        x.take(1, 16777217);
        x.gap(1);
        due(x.since(1, 4, 16777216), 1);
        due(x.since(1, 4, 16777219), 2);
    }

    private static void counted() {
        TripPanel x = withRow();
        rowRefusals(x, false);
        due(x.counted(2, 5, 0), 0);
        due(x.counted(0, 0, 20), 1);
        due(x.counted(0, 1, 20), 3);
        due(x.counted(0, 2, 20), 1);
        due(x.counted(0, 3, 20), 3);
        due(x.counted(0, 4, 20), 2);
        due(x.counted(0, 5, 20), 3);
        due(x.counted(0, 1, MOST), 4);
        due(x.counted(0, 3, -MOST), 4);
        // What is STEADY stands in the row as what the gauge kept.
        x.band(0, 5);
        x.take(0, 12);
        due(x.counted(0, 4, 12), 0);
        due(x.counted(0, 4, 10), 2);
        for (int i = 0; i < 20; i++) {
            x.take(0, 1000 * (i + 1));
        }
        due(x.counted(0, 3, 0), 12);
        due(x.counted(0, 1, 8000), 0);
        due(x.counted(0, 1, 9000), 1);
        x.take(1, 16777217);
        due(x.counted(1, 4, 16777216), 1);
        due(x.counted(1, 4, 16777219), 0);
    }

    private static void event() {
        TripPanel x = withConditions();
        due(x.event(0, 0), -1);
        x.trip(3, 1);
        x.part(3, 6);
        x.part(3, 5);
        x.scan();
        x.take(0, 2000);
        x.scan();
        due(x.event(0, 0), 3);
        due(x.event(0, 1), 2);
        due(x.event(0, 2), 5);
        due(x.event(0, 3), -1);
        due(x.event(0, -1), -1);
        due(x.event(1, 0), -1);
        due(x.event(-1, 0), -1);
        due(x.event(Integer.MIN_VALUE, 0), -1);
        due(x.event(Integer.MAX_VALUE, 1), -1);
        // What was logged stays when the trip and the condition change.
        x.level(5, 2, 0, 3000, false);
        x.trip(3, 6);
        due(x.event(0, 0), 3);
        due(x.event(0, 2), 5);
    }

    private static void eventsKept() {
        TripPanel x = withConditions();
        for (int t = 0; t < 8; t++) {
            x.trip(t, 1);
            x.part(t, 5);
        }
        for (int round = 1; round <= 4; round++) {
            x.take(0, 2000);
            due(x.scan(), 8);
            x.take(0, 0);
            for (int t = 0; t < 8; t++) {
                due(x.reset(t), 1);
            }
        }
        for (int k = 0; k < 20; k++) {
            due(x.event(k, 0), 7 - k % 8);
            due(x.event(k, 1), 4 - k / 8);
            due(x.event(k, 2), 5);
        }
        for (int what = 0; what < 3; what++) {
            due(x.event(20, what), -1);
            due(x.event(21, what), -1);
        }
        due(x.about(6), 32);
    }

    private static void about() {
        TripPanel x = withConditions();
        x.trip(0, 1);
        x.part(0, 5);
        x.trip(1, 1);
        x.part(1, 5);
        x.take(0, 2000);
        x.take(0, 2000);
        x.take(0, 3000);
        x.take(2, 3000);
        x.take(0, 3000);
        x.take(0, GAP);
        x.take(9, 0);
        x.limit(1, true, 0);
        x.take(1, 1);
        x.gap(1);
        x.scan();
        x.scan();
        x.clear(0);
        due(x.about(0), 3);
        due(x.about(1), 2);
        due(x.about(2), 3);
        due(x.about(3), 2);
        due(x.about(4), 1);
        due(x.about(5), 2);
        due(x.about(6), 2);
        due(x.about(7), -1);
        due(x.about(-1), -1);
        due(x.about(Integer.MAX_VALUE), -1);
        x.take(0, 0);
        x.reset(1);
        due(x.about(5), 1);
        due(x.about(6), 2);
        x.trip(0, 1);
        due(x.about(5), 0);
    }
}
