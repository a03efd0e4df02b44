import java.util.ArrayList;
import java.util.Arrays;
import java.util.HashSet;
import java.util.List;
import java.util.Set;
import java.util.function.ToIntFunction;

/**
 * Each sentence of the document that names a boundary has a test of its own here: at the boundary and on both
 * sides of it. No object gets more than the 512 calls that the document promises something about.
 */
public final class BoundaryTests {
    private static final int GAP = 2000000000;
    private static final int NONE = -1;
    private static final int MOST = 1000000000;
    private static final int MOST_BAND = 1000000;
    private static final int MIN = Integer.MIN_VALUE;
    private static final int MAX = Integer.MAX_VALUE;
    // None of these is a NUMBER; -MOST - 1 and MOST + 1 are the nearest ones.
    private static final int[] NO_NUMBERS = {-MOST - 1, MOST + 1, GAP, -GAP, MIN, MAX};
    private static final int[] EDGE_NUMBERS = {-MOST, 1 - MOST, -1, 0, 1, MOST - 1, MOST};
    private static final int[] NO_RELATIONS = {-1, 6, MIN, MAX};
    private static final int[] NO_GAUGES = {-1, 1, 14, 16, MIN, MAX};
    private static final int[] NO_CONDITIONS = {-1, 1, 22, 24, MIN, MAX};
    private static final int[] NO_TRIPS = {-1, 1, 6, 8, MIN, MAX};

    private static int wrong = 0;
    private static int answers = 0;
    private static final Set<String> SENTENCES = new HashSet<>();
    private static String sentence = "";

    private static void sentence(String text) {
        sentence = text;
        SENTENCES.add(text);
    }

    private static void due(int got, int want) {
        answers++;
        if (got != want) {
            wrong++;
            System.out.println("line " + callersLine() + " (" + sentence + "): answered " + got + ", due is " + want);
        }
    }

    private static int callersLine() {
        for (StackTraceElement e : Thread.currentThread().getStackTrace()) {
            String name = e.getMethodName();
            if (e.getClassName().equals("BoundaryTests") && !name.equals("due") && !name.equals("callersLine")) {
                return e.getLineNumber();
            }
        }
        return 0;
    }

    public static void main(String[] args) {
        numbers();
        gauges();
        values();
        relations();
        gaps();
        limits();
        bands();
        marks();
        rows();
        taking();
        conditions();
        trips();
        scans();
        events();
        refusedFirst();
        refusedWithNothingChanged();
        newObject();
        orders();
        extremes();
        abouts();
        manyCalls();
        System.out.println(SENTENCES.size() + " sentences, " + answers + " answers, " + wrong + " not as due");
        if (wrong != 0) {
            System.exit(1);
        }
    }

    /** Gauges 0 (wide) and 15 (narrow), the first and the last that can be. */
    private static TripPanel two() {
        TripPanel x = new TripPanel();
        x.make(0, false);
        x.make(15, true);
        return x;
    }

    /** One gauge, 0. */
    private static TripPanel one(boolean narrow) {
        TripPanel x = new TripPanel();
        x.make(0, narrow);
        return x;
    }

    /** Gauge 0 has value 10; conditions 0 to 5 hold, 18 to 23 do not. */
    private static TripPanel voting() {
        TripPanel x = one(false);
        x.take(0, 10);
        for (int i = 0; i < 6; i++) {
            x.level(i, 4, 0, 10, false);
            x.level(18 + i, 4, 0, 10, true);
        }
        return x;
    }

    // ---- Terms: NUMBERS

    private static void numbers() {
        sentence("NUMBERS are whole, from -1000000000 to 1000000000: take");
        for (int n : EDGE_NUMBERS) {
            TripPanel x = two();
            due(x.take(0, n), 2);
            due(x.shown(0), n);
            due(x.take(15, n), 2);
            due(x.shown(15), n);
        }
        for (int n : NO_NUMBERS) {
            due(two().take(0, n), -4);
            due(two().take(15, n), -4);
        }

        sentence("NUMBERS: limit");
        for (boolean high : new boolean[] {false, true}) {
            for (int n : EDGE_NUMBERS) {
                due(two().limit(0, high, n), 1);
                due(two().limit(15, high, n), 1);
            }
            for (int n : NO_NUMBERS) {
                due(two().limit(0, high, n), -4);
            }
        }

        sentence("NUMBERS: level");
        for (int n : EDGE_NUMBERS) {
            TripPanel x = two();
            x.take(0, n);
            due(x.level(0, 4, 0, n, false), 1);
            due(x.holds(0), 1);
        }
        for (int n : NO_NUMBERS) {
            due(two().level(0, 4, 0, n, false), -4);
        }

        sentence("NUMBERS: since, counted");
        for (int n : EDGE_NUMBERS) {
            TripPanel x = two();
            x.take(0, n);
            due(x.since(0, 4, n), 0);
            due(x.since(0, 5, n), 1);
            due(x.counted(0, 4, n), 1);
            due(x.counted(0, 5, n), 0);
        }
        for (int n : NO_NUMBERS) {
            due(two().since(0, 4, n), -4);
            due(two().counted(0, 5, n), -4);
        }
    }

    // ---- Terms: GAUGE

    private static void gauges() {
        sentence("A GAUGE (0 .. 15 ..): make");
        TripPanel x = new TripPanel();
        for (int g : new int[] {-1, 16, 17, MIN, MAX}) {
            due(x.make(g, false), -4);
            due(x.make(g, true), -4);
        }
        due(x.about(0), 0);
        for (int g = 0; g <= 15; g++) {
            due(x.make(g, g % 2 == 0), 1);
            due(x.about(0), g + 1);
        }
        for (int g = 0; g <= 15; g++) {
            due(x.make(g, false), 0);
        }
        due(x.make(16, false), -4);
        due(x.about(0), 16);

        sentence("A GAUGE (.. when it was made): no such gauge");
        for (int g : NO_GAUGES) {
            noSuchGauge(g);
        }

        sentence("A GAUGE (0 .. 15): the first and the last one are like the others");
        for (int g : new int[] {0, 1, 14, 15}) {
            suchAGauge(g);
        }

        sentence("A gauge has .. a GAP as it is made");
        for (boolean narrow : new boolean[] {false, true}) {
            TripPanel y = one(narrow);
            due(y.shown(0), GAP);
            due(y.gap(0), 0);
            due(one(narrow).stands(0, 4, 0), 0);
            // With a value of 0 it would be STEADY.
            due(one(narrow).take(0, 0), 2);
        }

        sentence("make: 0 if it is there (it stays as it is)");
        TripPanel y = two();
        y.take(0, 16777217);
        y.take(15, 16777217);
        due(y.make(0, true), 0);
        due(y.make(15, false), 0);
        due(y.shown(0), 16777217);
        due(y.take(0, 16777216), 2);
        due(y.take(15, 16777216), 1);
        due(y.make(0, false), 0);
        due(y.shown(0), 16777216);
        due(y.about(0), 2);
    }

    private static void noSuchGauge(int g) {
        TripPanel x = two();
        due(x.limit(g, true, 0), -2);
        due(x.limit(g, false, 0), -2);
        due(x.open(g, true), -2);
        due(x.open(g, false), -2);
        due(x.band(g, 0), -2);
        due(x.take(g, 0), -2);
        due(x.gap(g), -2);
        due(x.clear(g), -2);
        due(x.shown(g), GAP);
        due(x.mark(g, true), GAP);
        due(x.mark(g, false), GAP);
        due(x.stale(g), -2);
        due(x.stands(g, 5, 0), -2);
        due(x.stands(0, 5, g), -2);
        due(x.stands(g, 5, g), -2);
        due(x.between(0, 5, g, 0, false), -2);
        due(x.between(0, 5, 0, g, false), -2);
        due(x.level(0, 5, g, 0, false), -2);
        due(x.since(g, 5, 0), -2);
        due(x.counted(g, 5, 0), -2);
        due(x.holds(0), -2);
        due(x.about(0), 2);
    }

    private static void suchAGauge(int g) {
        TripPanel x = new TripPanel();
        due(x.make(g, false), 1);
        due(x.limit(g, true, 0), 1);
        due(x.limit(g, false, 0), 1);
        due(x.open(g, true), 1);
        due(x.open(g, false), 1);
        due(x.band(g, 0), 1);
        due(x.take(g, 7), 2);
        due(x.shown(g), 7);
        due(x.mark(g, true), 7);
        due(x.mark(g, false), 7);
        due(x.stands(g, 4, g), 1);
        due(x.between(0, 4, g, g, false), 1);
        due(x.level(1, 4, g, 7, false), 1);
        due(x.since(g, 4, 7), 0);
        due(x.counted(g, 4, 7), 1);
        due(x.clear(g), 1);
        due(x.gap(g), 1);
        due(x.scan(), 0);
        due(x.stale(g), 1);
    }

    // ---- Terms: VALUE

    private static void values() {
        sentence("VALUE, wide: n as a double divided by 1000 (no two numbers have the same)");
        for (int n : new int[] {-MOST, -16777217, -1, 0, 16384001, 16777216, MOST - 1}) {
            TripPanel x = one(false);
            x.take(0, n);
            due(x.take(0, n + 1), 2);
            due(x.take(0, n), 2);
            due(x.take(0, n), 1);
        }

        sentence("VALUE, narrow: n as a float (the nearest, to even)");
        // 16777217 lies in the middle of 16777216 and 16777218, 16777219 in that of 16777218 and 16777220.
        for (int sign : new int[] {1, -1}) {
            same(16777216 * sign, 16777217 * sign);
            unlike(16777217 * sign, 16777218 * sign);
            unlike(16777218 * sign, 16777219 * sign);
            same(16777219 * sign, 16777220 * sign);
            same(16777220 * sign, 16777221 * sign);
            unlike(16777221 * sign, 16777222 * sign);
            // As floats the numbers below MOST are 64 apart; 32 less is the middle, and MOST is the even one.
            same(MOST * sign, (MOST - 1) * sign);
            same(MOST * sign, (MOST - 31) * sign);
        }

        sentence("VALUE, narrow: divided by 1000 as floats (rounded likewise)");
        for (int sign : new int[] {1, -1}) {
            // From 16384 on floats are 1/512 apart, below it 1/1024.
            unlike(16383999 * sign, 16384000 * sign);
            unlike(16384000 * sign, 16384001 * sign);
            same(16384001 * sign, 16384002 * sign);
            unlike(16384002 * sign, 16384003 * sign);
            unlike(999999 * sign, 1000000 * sign);
        }

        sentence("VALUE, narrow: 0.1f is above 0.1, 0.005f below 0.005, 0.125f just it");
        narrowBesideWide(100, 1);
        narrowBesideWide(1, 1);
        narrowBesideWide(5, -1);
        narrowBesideWide(700, -1);
        narrowBesideWide(125, 0);
        narrowBesideWide(0, 0);
        narrowBesideWide(-100, -1);
        narrowBesideWide(-5, 1);
        narrowBesideWide(-125, 0);
        narrowBesideWide(MOST, 0);
        narrowBesideWide(-MOST, 0);
    }

    private static void same(int n, int m) {
        due(narrowPair(n, m).stands(0, 4, 1), 1);
        due(narrowPair(n, m).stands(0, 5, 1), 0);
    }

    private static void unlike(int n, int m) {
        due(narrowPair(n, m).stands(0, 4, 1), 0);
        due(narrowPair(n, m).stands(0, 5, 1), 1);
        due(narrowPair(n, m).stands(0, n < m ? 0 : 2, 1), 1);
    }

    private static TripPanel narrowPair(int n, int m) {
        TripPanel x = one(true);
        x.make(1, true);
        x.take(0, n);
        x.take(1, m);
        return x;
    }

    private static void narrowBesideWide(int n, int sign) {
        TripPanel x = two();
        x.take(0, n);
        x.take(15, n);
        relationsAre(x, 15, 0, sign);
        relationsAre(x, 0, 15, -sign);
    }

    private static void relationsAre(TripPanel x, int a, int b, int sign) {
        boolean[] want = {sign < 0, sign <= 0, sign > 0, sign >= 0, sign == 0, sign != 0};
        for (int relation = 0; relation <= 5; relation++) {
            due(x.stands(a, relation, b), want[relation] ? 1 : 0);
        }
    }

    // ---- Terms: RELATIONS

    private static void relations() {
        sentence("RELATIONS: 0 .. 5, others are outside");
        for (int relation : NO_RELATIONS) {
            TripPanel x = two();
            due(x.stands(0, relation, 15), -4);
            due(x.between(0, relation, 0, 15, false), -4);
            due(x.level(0, relation, 0, 0, false), -4);
            due(x.since(0, relation, 0), -4);
            due(x.counted(0, relation, 0), -4);
            due(x.holds(0), -2);
        }
        for (int relation = 0; relation <= 5; relation++) {
            TripPanel x = two();
            due(x.stands(0, relation, 15), relation == 5 ? 1 : 0);
            due(x.between(0, relation, 0, 15, false), 1);
            due(x.level(1, relation, 0, 0, false), 1);
            due(x.since(0, relation, 0), 0);
            due(x.counted(0, relation, 0), 0);
        }

        sentence("RELATIONS: Values stand in them as numbers do");
        for (boolean narrow : new boolean[] {false, true}) {
            for (int n : new int[] {-1001, -1, 0, 1, 999, 1000, 1000000}) {
                for (int step = -1; step <= 1; step++) {
                    nearby(narrow, n, step);
                }
            }
            nearby(narrow, -MOST, 2 * MOST);
            nearby(narrow, MOST, -2 * MOST);
        }

        sentence("RELATIONS: two of narrow gauges as floats, one of a narrow and one of a wide gauge as doubles");
        TripPanel x = two();
        x.make(1, true);
        x.take(0, 16777217);
        x.take(1, 16777217);
        x.take(15, 16777216);
        relationsAre(x, 1, 15, 0);
        relationsAre(x, 15, 1, 0);
        // 16777216f / 1000f is 16777.216796875.
        relationsAre(x, 15, 0, -1);
        relationsAre(x, 0, 15, 1);
        x.take(0, 16777216);
        relationsAre(x, 15, 0, 1);
    }

    private static void nearby(boolean narrow, int n, int step) {
        TripPanel x = one(narrow);
        x.make(1, narrow);
        x.take(0, n + step);
        x.take(1, n);
        relationsAre(x, 0, 1, Integer.signum(step));
        boolean[] want = {step < 0, step <= 0, step > 0, step >= 0, step == 0, step != 0};
        for (int relation = 0; relation <= 5; relation++) {
            int holds = want[relation] ? 1 : 0;
            x.between(0, relation, 0, 1, false);
            x.level(1, relation, 0, n, false);
            due(x.holds(0), holds);
            due(x.holds(1), holds);
            due(x.counted(0, relation, n), holds);
            due(x.since(0, relation, n), 1 - holds);
        }
    }

    // ---- Terms: a GAP on one side, or on both

    private static void gaps() {
        for (int relation = 0; relation <= 5; relation++) {
            int holds = relation == 5 ? 1 : 0;
            for (boolean narrow : new boolean[] {false, true}) {
                sentence("Where a GAP is on one side: the left one");
                gapsAre(relation, narrow, false, true, holds);
                sentence("Where a GAP is on one side: the right one");
                gapsAre(relation, narrow, true, false, holds);
                sentence("Where a GAP is .. on both");
                gapsAre(relation, narrow, false, false, holds);
            }
            sentence("a GAP is unlike itself, too");
            TripPanel x = two();
            due(x.stands(0, relation, 0), holds);
            x.between(0, relation, 0, 0, false);
            x.between(1, relation, 0, 0, true);
            due(x.holds(0), holds);
            due(x.holds(1), 1 - holds);
            x.take(0, 0);
            boolean same = relation == 1 || relation == 3 || relation == 4;
            due(x.stands(0, relation, 0), same ? 1 : 0);
            due(x.holds(0), same ? 1 : 0);
            due(x.holds(1), same ? 0 : 1);

            sentence("a GAP beside a LEVEL");
            for (int n : EDGE_NUMBERS) {
                TripPanel y = two();
                y.level(0, relation, 0, n, false);
                y.level(1, relation, 15, n, true);
                due(y.holds(0), holds);
                due(y.holds(1), 1 - holds);
            }

            sentence("a GAP in a ROW");
            for (int n : EDGE_NUMBERS) {
                TripPanel y = two();
                y.gap(0);
                due(y.counted(0, relation, n), holds);
                due(y.since(0, relation, n), 1 - holds);
            }
        }
    }

    private static void gapsAre(int relation, boolean narrow, boolean left, boolean right, int holds) {
        for (int n : new int[] {-5, 0, 5}) {
            TripPanel x = one(narrow);
            x.make(1, false);
            if (left) {
                x.take(0, n);
            }
            if (right) {
                x.take(1, n);
            }
            due(x.stands(0, relation, 1), holds);
            x.between(0, relation, 0, 1, false);
            x.between(1, relation, 0, 1, true);
            due(x.holds(0), holds);
            due(x.holds(1), 1 - holds);
        }
    }

    // ---- Terms: LOW and HIGH; promises 3 and 4

    private static void limits() {
        sentence("a LOW and a HIGH limit, a value or none (at first)");
        for (boolean narrow : new boolean[] {false, true}) {
            due(one(narrow).take(0, MOST), 2);
            due(one(narrow).take(0, -MOST), 2);
            due(one(narrow).open(0, true), 0);
            due(one(narrow).open(0, false), 0);
        }

        sentence("it is CUT if v is less than LOW");
        for (boolean narrow : new boolean[] {false, true}) {
            for (int n : new int[] {-1000, -1, 0, 1, 1000}) {
                TripPanel x = one(narrow);
                x.limit(0, false, n);
                due(x.take(0, n - 1), 0);
                due(x.take(0, n), 2);
                due(x.take(0, n + 1), 2);
                due(x.take(0, MOST), 2);
                due(x.take(0, -MOST), 0);
            }
        }

        sentence("it is CUT if v is .. greater than HIGH");
        for (boolean narrow : new boolean[] {false, true}) {
            for (int n : new int[] {-1000, -1, 0, 1, 1000}) {
                TripPanel x = one(narrow);
                x.limit(0, true, n);
                due(x.take(0, n + 1), 0);
                due(x.take(0, n), 2);
                due(x.take(0, n - 1), 2);
                due(x.take(0, -MOST), 2);
                due(x.take(0, MOST), 0);
            }
        }

        sentence("limits at the ends of the NUMBERS");
        TripPanel x = one(false);
        x.limit(0, false, MOST);
        due(x.take(0, MOST - 1), 0);
        due(x.take(0, MOST), 2);
        x.limit(0, false, -MOST);
        due(x.take(0, -MOST), 2);
        x.limit(0, true, -MOST);
        due(x.take(0, 1 - MOST), 0);
        due(x.take(0, -MOST), 2);
        x.limit(0, true, MOST);
        due(x.take(0, MOST), 2);

        sentence("LOW and HIGH are the same, or have no room between them");
        TripPanel y = one(false);
        y.limit(0, false, 7);
        y.limit(0, true, 7);
        due(y.take(0, 6), 0);
        due(y.take(0, 7), 2);
        due(y.take(0, 8), 0);
        y.limit(0, false, 8);
        due(y.take(0, 7), 0);
        due(y.take(0, 8), 0);

        sentence("The .. limit becomes the value of n: a narrow gauge's as a float");
        TripPanel z = one(true);
        // With a limit of 0.1 in doubles 0.1f would be above it, with one of 0.7 0.7f below.
        z.limit(0, true, 100);
        due(z.take(0, 100), 2);
        due(z.take(0, 101), 0);
        z.open(0, true);
        z.limit(0, false, 700);
        due(z.take(0, 700), 2);
        due(z.take(0, 699), 0);
        z.open(0, false);
        z.limit(0, true, 16777216);
        due(z.take(0, 16777217), 2);
        due(z.take(0, 16777218), 0);
        z.open(0, true);
        z.limit(0, false, 16777217);
        due(z.take(0, 16777216), 2);
        due(z.take(0, 16777214), 0);

        sentence("limit: (What the gauge has stays.)");
        TripPanel w = one(false);
        w.take(0, 50);
        due(w.limit(0, true, 49), 1);
        due(w.shown(0), 50);
        due(w.limit(0, false, 51), 1);
        due(w.shown(0), 50);
        due(w.counted(0, 5, 0), 1);
        due(w.about(4), 0);

        sentence("limit: one of them becomes so, the other stays; anew");
        TripPanel v = one(false);
        v.limit(0, true, 10);
        v.limit(0, false, -10);
        due(v.limit(0, true, 20), 1);
        due(v.take(0, 20), 2);
        due(v.take(0, -11), 0);
        due(v.limit(0, false, -20), 1);
        due(v.take(0, -20), 2);
        due(v.take(0, 21), 0);

        sentence("open: 1, or 0 if there was none");
        for (boolean high : new boolean[] {false, true}) {
            for (int n : EDGE_NUMBERS) {
                TripPanel u = one(false);
                u.limit(0, high, n);
                due(u.open(0, !high), 0);
                due(u.open(0, high), 1);
                due(u.open(0, high), 0);
                due(u.take(0, MOST), 2);
                due(u.take(0, -MOST), 2);
            }
        }

        sentence("open: There is no such limit any more (the other one stays)");
        TripPanel t = one(false);
        t.limit(0, true, 5);
        t.limit(0, false, -5);
        due(t.open(0, true), 1);
        due(t.take(0, 6), 2);
        due(t.take(0, -6), 0);
        t.limit(0, true, 5);
        due(t.open(0, false), 1);
        due(t.take(0, -6), 2);
        due(t.take(0, 6), 0);
    }

    // ---- Terms: BAND; promise 5

    private static void bands() {
        sentence("a BAND, a number 0 .. 1000000");
        for (int n : new int[] {-1, MOST_BAND + 1, MOST, -MOST, GAP, MIN, MAX}) {
            due(two().band(0, n), -4);
            due(two().band(15, n), -4);
        }
        for (int n : new int[] {0, 1, MOST_BAND - 1, MOST_BAND}) {
            due(two().band(0, n), 1);
            due(two().band(15, n), 1);
        }

        sentence("a BAND .. (0 at first)");
        for (boolean narrow : new boolean[] {false, true}) {
            TripPanel x = one(narrow);
            due(x.take(0, 5), 2);
            due(x.take(0, 5), 1);
            due(x.take(0, 6), 2);
            due(x.take(0, 5), 2);
        }

        sentence("STEADY, if .. is not greater than the BAND's value: at it, above it, below it");
        for (int n : new int[] {1, 125, 1000, MOST_BAND - 1000, MOST_BAND}) {
            TripPanel x = one(false);
            x.band(0, n);
            due(x.take(0, 0), 2);
            due(x.take(0, n - 1), 1);
            due(x.take(0, n), 1);
            due(x.take(0, -n), 1);
            due(x.shown(0), 0);
            due(x.take(0, n + 1), 2);
            due(x.take(0, 0), 2);
            due(x.take(0, -n - 1), 2);
        }

        sentence("STEADY, narrow: the BAND's value is a float");
        for (int n : new int[] {1, 5, 100, 700, 125000, MOST_BAND}) {
            TripPanel x = one(true);
            x.band(0, n);
            due(x.take(0, 0), 2);
            due(x.take(0, n), 1);
            due(x.take(0, -n), 1);
            due(x.take(0, n + 1), 2);
            due(x.take(0, 0), 2);
            due(x.take(0, -n - 1), 2);
        }

        sentence("STEADY: the greater one of v and w, less the other one (in doubles)");
        // 0.8 less 0.7 is above 0.1 in doubles, 0.3 less 0.2 below it.
        difference(false, 100, 700, 800, 2);
        difference(false, 100, -700, -800, 2);
        difference(false, 100, 200, 300, 1);
        difference(false, 100, -200, -300, 1);
        difference(false, 99, 200, 300, 2);
        difference(false, 101, 700, 800, 1);

        sentence("STEADY: .. for a narrow gauge in floats");
        // 0.3f less 0.2f is above 0.1f; 0.046f less 0.008f is 0.038f in floats, above it in doubles.
        difference(true, 100, 200, 300, 2);
        difference(true, 100, -200, -300, 2);
        difference(true, 101, 200, 300, 1);
        difference(true, 38, 8, 46, 1);
        difference(true, 38, -8, -46, 1);
        difference(true, 37, 8, 46, 2);
        difference(true, MOST_BAND, MOST, -MOST, 2);

        sentence("a BAND that becomes another one leaves what the gauge has");
        TripPanel x = one(false);
        x.take(0, 100);
        x.band(0, 10);
        due(x.take(0, 110), 1);
        due(x.band(0, 9), 1);
        due(x.shown(0), 100);
        due(x.take(0, 110), 2);
        due(x.band(0, 0), 1);
        due(x.take(0, 111), 2);
    }

    /** What taking m answers while the gauge has n, and the other way round. */
    private static void difference(boolean narrow, int band, int n, int m, int want) {
        for (int turn = 0; turn < 2; turn++) {
            TripPanel x = one(narrow);
            x.band(0, band);
            due(x.take(0, turn == 0 ? n : m), 2);
            due(x.take(0, turn == 0 ? m : n), want);
        }
    }

    // ---- Terms: MARKS; promises 8 and 10

    private static void marks() {
        sentence("MARKS: .. GAPS if there are none");
        TripPanel x = two();
        marksAre(x, GAP, GAP);
        x.limit(0, true, 0);
        x.take(0, 1);
        x.gap(0);
        marksAre(x, GAP, GAP);
        x.take(0, 0);
        marksAre(x, 0, 0);

        sentence("MARKS: the greatest one, the least one: by one more or less");
        for (int n : new int[] {-1000, -1, 0, 1, 1000}) {
            TripPanel y = two();
            y.take(0, n);
            marksAre(y, n, n);
            y.take(0, n + 1);
            marksAre(y, n + 1, n);
            y.take(0, n - 1);
            marksAre(y, n + 1, n - 1);
            y.take(0, n);
            marksAre(y, n + 1, n - 1);
        }
        TripPanel ends = two();
        ends.take(0, MOST);
        marksAre(ends, MOST, MOST);
        ends.take(0, -MOST);
        marksAre(ends, MOST, -MOST);

        sentence("MARKS: of those that it MOVED to: not those that were STEADY, CUT or refused");
        TripPanel z = two();
        z.take(0, 0);
        z.band(0, 10);
        z.take(0, 10);
        z.take(0, -10);
        marksAre(z, 0, 0);
        z.limit(0, true, 100);
        z.limit(0, false, -100);
        z.take(0, 101);
        z.take(0, -101);
        z.take(0, GAP);
        marksAre(z, 0, 0);
        z.take(0, 100);
        z.take(0, -100);
        marksAre(z, 100, -100);

        sentence("MARKS: of the same the first one");
        TripPanel w = one(true);
        w.take(0, 16777217);
        w.gap(0);
        due(w.take(0, 16777216), 2);
        marksAre(w, 16777217, 16777217);
        w.gap(0);
        w.take(0, 16777218);
        marksAre(w, 16777218, 16777217);
        w.gap(0);
        w.take(0, 16777215);
        marksAre(w, 16777218, 16777215);
        // As floats divided by 1000 these two are the same, too.
        w.gap(0);
        due(w.take(0, 16777214), 2);
        marksAre(w, 16777218, 16777215);

        sentence("MARKS: .. since it was made or cleared; clear: what it has stays");
        TripPanel v = two();
        v.take(0, 5);
        v.take(0, 9);
        due(v.clear(0), 1);
        marksAre(v, GAP, GAP);
        due(v.shown(0), 9);
        due(v.take(0, 9), 1);
        marksAre(v, GAP, GAP);
        v.take(0, 8);
        marksAre(v, 8, 8);
        due(v.clear(0), 1);
        due(v.clear(0), 1);
        marksAre(v, GAP, GAP);

        sentence("mark: each gauge has its own");
        TripPanel u = two();
        u.take(0, 3);
        u.take(15, 4);
        u.clear(0);
        due(u.mark(15, true), 4);
        due(u.mark(15, false), 4);
    }

    private static void marksAre(TripPanel x, int greatest, int least) {
        due(x.mark(0, true), greatest);
        due(x.mark(0, false), least);
    }

    // ---- Terms: ROW; promises 8, 24 and 25

    private static void rows() {
        sentence("a ROW .. the latest 12: eleven, twelve, thirteen, and each wrap-around");
        for (int length : new int[] {0, 1, 2, 11, 12, 13, 14, 23, 24, 25, 26, 36, 37, 100}) {
            TripPanel x = one(false);
            for (int n = 1; n <= length; n++) {
                x.take(0, n);
            }
            int kept = Math.min(length, 12);
            due(x.counted(0, 2, 0), kept);
            due(x.counted(0, 5, 0), kept);
            due(x.since(0, 4, 0), kept);
            for (int k = 0; k < kept; k++) {
                due(x.since(0, 4, length - k), k);
                due(x.counted(0, 4, length - k), 1);
            }
            // The one behind the last that is kept is gone.
            due(x.counted(0, 4, length - kept), 0);
            due(x.since(0, 4, length - kept), kept);
        }

        sentence("a ROW of what it had behind each take() and gap(): CUT, STEADY, moved, gap() twice");
        TripPanel x = one(false);
        x.band(0, 5);
        x.limit(0, true, 100);
        x.take(0, 10);
        x.take(0, 12);
        due(x.counted(0, 4, 10), 2);
        due(x.counted(0, 4, 12), 0);
        x.take(0, 101);
        due(x.counted(0, 3, -MOST), 2);
        due(x.counted(0, 5, 0), 3);
        x.gap(0);
        x.gap(0);
        due(x.counted(0, 5, 0), 5);
        due(x.since(0, 4, 10), 3);
        x.take(0, 11);
        due(x.since(0, 4, 11), 0);
        due(x.since(0, 4, 10), 4);

        sentence("a ROW: refused calls, limits, bands and scans leave it");
        int length = x.counted(0, 5, 99);
        due(length, 6);
        x.take(0, MOST + 1);
        x.take(1, 0);
        x.gap(1);
        x.limit(0, true, 0);
        x.band(0, 0);
        x.open(0, true);
        x.scan();
        due(x.counted(0, 5, 99), 6);

        sentence("clear: its ROW is empty, also a full one; what comes then stands alone");
        for (int full : new int[] {0, 1, 11, 12, 13}) {
            TripPanel y = one(false);
            for (int n = 1; n <= full; n++) {
                y.take(0, n);
            }
            due(y.clear(0), 1);
            due(y.counted(0, 5, 0), 0);
            due(y.since(0, 4, full), 0);
            y.take(0, 500);
            y.gap(0);
            due(y.counted(0, 5, 0), 2);
            due(y.since(0, 4, 500), 1);
            due(y.since(0, 4, 501), 2);
            for (int n = 1; n <= 12; n++) {
                y.take(0, 1000 + n);
            }
            due(y.counted(0, 2, 1000), 12);
            due(y.counted(0, 4, 500), 0);
        }

        sentence("since: up to the first that does, or its end");
        TripPanel z = one(false);
        due(z.since(0, 5, 0), 0);
        due(z.since(0, 4, 0), 0);
        z.take(0, 1);
        due(z.since(0, 4, 1), 0);
        due(z.since(0, 4, 2), 1);
        z.take(0, 2);
        z.take(0, 1);
        due(z.since(0, 4, 1), 0);
        due(z.since(0, 4, 2), 1);
        due(z.since(0, 5, 1), 1);
        due(z.since(0, 2, 2), 3);
        due(z.since(0, 3, 2), 1);
        due(z.since(0, 0, 1), 3);
        due(z.since(0, 1, 1), 0);

        sentence("since, counted: the value of n, for a narrow gauge as a float");
        TripPanel w = one(true);
        w.take(0, 100);
        due(w.counted(0, 4, 100), 1);
        due(w.since(0, 2, 100), 1);
        w.take(0, 16777217);
        due(w.counted(0, 4, 16777216), 1);
        due(w.counted(0, 4, 16777218), 0);
        due(w.since(0, 4, 16777216), 0);
        due(w.since(0, 4, 16777218), 2);
        due(w.since(0, 0, 16777218), 0);

        sentence("a ROW: each gauge has its own");
        TripPanel v = two();
        v.take(0, 1);
        v.take(15, 2);
        due(v.counted(0, 5, 0), 1);
        due(v.counted(15, 5, 0), 1);
        v.clear(0);
        due(v.counted(15, 4, 2), 1);
    }

    // ---- Terms: TAKING; promises 6, 7 and 9

    private static void taking() {
        sentence("CUT ..: the gauge has a GAP then, also where it had a value, also where v is the same");
        TripPanel x = one(false);
        x.take(0, 50);
        x.limit(0, true, 49);
        due(x.take(0, 50), 0);
        due(x.shown(0), GAP);
        due(x.take(0, 50), 0);
        due(x.shown(0), GAP);
        due(x.gap(0), 0);

        sentence("CUT goes first: within the BAND, too");
        TripPanel y = one(false);
        y.band(0, MOST_BAND);
        y.take(0, 50);
        y.limit(0, false, 51);
        due(y.take(0, 50), 0);
        due(y.shown(0), GAP);

        sentence("STEADY, if the gauge has a value w: none as it is made, after gap() and after CUT");
        TripPanel z = one(false);
        z.band(0, MOST_BAND);
        due(z.take(0, 0), 2);
        due(z.take(0, 0), 1);
        z.gap(0);
        due(z.take(0, 0), 2);
        z.limit(0, true, 10);
        due(z.take(0, 11), 0);
        due(z.take(0, 10), 2);
        due(z.take(0, 0), 1);

        sentence("STEADY: the gauge keeps w");
        TripPanel w = one(false);
        w.band(0, 125);
        w.take(0, 1000);
        due(w.take(0, 1125), 1);
        due(w.shown(0), 1000);
        due(w.take(0, 875), 1);
        due(w.shown(0), 1000);
        due(w.take(0, 1126), 2);
        due(w.shown(0), 1126);
        TripPanel v = one(true);
        v.take(0, 16777217);
        due(v.take(0, 16777216), 1);
        due(v.shown(0), 16777217);

        sentence("STEADY: w outside of limits that came later is kept");
        TripPanel u = one(false);
        u.band(0, 10);
        u.take(0, 105);
        u.limit(0, true, 100);
        due(u.take(0, 100), 1);
        due(u.shown(0), 105);

        sentence("Else the gauge MOVES: it has v");
        due(u.take(0, 94), 2);
        due(u.shown(0), 94);

        sentence("gap: 1 if it had a value, else 0");
        TripPanel t = two();
        due(t.gap(0), 0);
        t.take(0, 0);
        due(t.gap(0), 1);
        due(t.gap(0), 0);
        due(t.shown(0), GAP);
        t.take(15, 0);
        due(t.gap(0), 0);
        due(t.shown(15), 0);
    }

    // ---- Terms: CONDITION; promises 13, 14 and 15

    private static void conditions() {
        sentence("A CONDITION (0 .. 23)");
        TripPanel x = two();
        for (int c : new int[] {-1, 24, 25, MIN, MAX}) {
            due(x.between(c, 0, 0, 15, false), -4);
            due(x.level(c, 0, 0, 0, false), -4);
            due(x.holds(c), -2);
        }
        x.trip(0, 1);
        for (int c = 0; c <= 23; c++) {
            due(x.holds(c), -2);
            due(x.part(0, c), -2);
            due(c % 2 == 0 ? x.between(c, 5, 0, 15, c % 3 == 0) : x.level(c, 5, 0, 0, c % 3 == 0), 1);
            due(x.holds(c), c % 3 == 0 ? 0 : 1);
        }

        sentence("no such condition: never defined, or outside");
        TripPanel v = two();
        v.level(0, 5, 0, 0, false);
        v.level(23, 5, 0, 0, false);
        v.trip(0, 1);
        for (int c : NO_CONDITIONS) {
            due(v.holds(c), -2);
            due(v.part(0, c), -2);
        }
        due(v.holds(0), 1);
        due(v.holds(23), 1);
        due(v.part(0, 0), 1);
        due(v.part(0, 23), 2);

        sentence("between a gauge and a gauge (perhaps itself)");
        TripPanel y = two();
        due(y.between(0, 4, 15, 15, false), 1);
        due(y.holds(0), 0);
        y.take(15, 1);
        due(y.holds(0), 1);

        sentence("a LEVEL: the value that a number has for that gauge");
        TripPanel z = two();
        z.take(15, 100);
        z.take(0, 100);
        z.level(0, 4, 15, 100, false);
        z.level(1, 4, 0, 100, false);
        due(z.holds(0), 1);
        due(z.holds(1), 1);
        z.take(15, 16777217);
        z.take(0, 16777217);
        z.level(0, 4, 15, 16777216, false);
        z.level(1, 4, 0, 16777216, false);
        due(z.holds(0), 1);
        due(z.holds(1), 0);

        sentence("It HOLDS if they stand in the relation now; if it is TURNED, just if they do not");
        TripPanel w = two();
        w.level(0, 3, 0, 10, false);
        w.level(1, 3, 0, 10, true);
        int[] numbers = {9, 10, 11, 9};
        for (int n : numbers) {
            w.take(0, n);
            due(w.holds(0), n >= 10 ? 1 : 0);
            due(w.holds(1), n >= 10 ? 0 : 1);
        }
        w.gap(0);
        due(w.holds(0), 0);
        due(w.holds(1), 1);

        sentence("Condition c is (anew) one: of the other kind, another relation, another gauge, turned");
        TripPanel u = two();
        u.take(0, 10);
        u.take(15, 20);
        due(u.level(0, 0, 0, 10, false), 1);
        due(u.holds(0), 0);
        due(u.between(0, 0, 0, 15, false), 1);
        due(u.holds(0), 1);
        due(u.between(0, 0, 15, 0, false), 1);
        due(u.holds(0), 0);
        due(u.between(0, 0, 15, 0, true), 1);
        due(u.holds(0), 1);
        due(u.between(0, 0, 15, 0, false), 1);
        due(u.holds(0), 0);
        due(u.between(0, 2, 15, 0, false), 1);
        due(u.holds(0), 1);
        due(u.level(0, 2, 15, 20, false), 1);
        due(u.holds(0), 0);
        due(u.level(0, 2, 15, 19, false), 1);
        due(u.holds(0), 1);
    }

    // ---- Terms: TRIP; promises 16, 17, 19, 20 and 21

    private static void trips() {
        sentence("A TRIP (0 .. 7)");
        TripPanel x = voting();
        for (int t : new int[] {-1, 8, 9, MIN, MAX}) {
            due(x.trip(t, 1), -4);
        }
        for (int t = 0; t <= 7; t++) {
            due(x.tripped(t), -2);
            due(x.trip(t, 1), 1);
            due(x.tripped(t), 0);
        }

        sentence("no such trip: never defined, or outside");
        TripPanel v = voting();
        v.trip(0, 1);
        v.trip(7, 1);
        for (int t : NO_TRIPS) {
            due(v.part(t, 0), -2);
            due(v.reset(t), -2);
            due(v.votes(t), -2);
            due(v.tripped(t), -2);
        }
        for (int t : new int[] {0, 7}) {
            due(v.votes(t), 0);
            due(v.part(t, 0), 1);
            due(v.votes(t), 1);
            due(v.tripped(t), 0);
            due(v.reset(t), -5);
        }
        due(v.scan(), 2);

        sentence("VOTES, 1 .. 6");
        TripPanel y = voting();
        for (int votes : new int[] {0, -1, 7, 8, MIN, MAX}) {
            due(y.trip(0, votes), -4);
            due(y.tripped(0), -2);
        }
        for (int votes = 1; votes <= 6; votes++) {
            due(y.trip(0, votes), 1);
        }

        sentence("at most six conditions; part: how many; NONE when it has six");
        TripPanel z = voting();
        z.trip(0, 1);
        for (int i = 1; i <= 6; i++) {
            due(z.part(0, i - 1), i);
            due(z.votes(0), i);
        }
        due(z.part(0, 0), NONE);
        due(z.part(0, 5), NONE);
        due(z.votes(0), 6);
        due(z.part(0, 6), -2);
        due(z.part(1, 0), -2);

        sentence("of one number perhaps several times; NOW is .. each time that it stands there");
        TripPanel w = voting();
        w.trip(7, 6);
        for (int i = 1; i <= 6; i++) {
            due(w.scan(), 0);
            due(w.part(7, 3), i);
            due(w.votes(7), i);
        }
        due(w.part(7, 3), NONE);
        due(w.scan(), 1);
        w.level(3, 4, 0, 11, false);
        due(w.votes(7), 0);

        sentence("a condition that is defined anew is so in the trips, too");
        TripPanel u = voting();
        u.trip(0, 2);
        u.trip(1, 1);
        u.part(0, 0);
        u.part(0, 18);
        u.part(1, 18);
        due(u.votes(0), 1);
        due(u.votes(1), 0);
        u.level(18, 4, 0, 10, false);
        due(u.votes(0), 2);
        due(u.votes(1), 1);
        u.between(18, 5, 0, 0, false);
        due(u.votes(0), 1);
        due(u.votes(1), 0);

        sentence("Trip t is (anew) one with so many VOTES, without conditions, not TRIPPED");
        TripPanel t = voting();
        t.trip(0, 1);
        t.part(0, 0);
        t.part(0, 1);
        t.scan();
        due(t.tripped(0), 1);
        due(t.trip(0, 2), 1);
        due(t.tripped(0), 0);
        due(t.votes(0), 0);
        due(t.about(5), 0);
        due(t.scan(), 0);
        due(t.part(0, 18), 1);
        due(t.part(0, 0), 2);
        due(t.votes(0), 1);
        due(t.scan(), 0);
        due(t.part(0, 1), 3);
        due(t.scan(), 1);
        due(t.event(0, 2), 0);

        sentence("(anew) behind six conditions: again six");
        TripPanel s = voting();
        s.trip(0, 1);
        for (int i = 0; i < 7; i++) {
            s.part(0, 0);
        }
        s.trip(0, 1);
        due(s.votes(0), 0);
        for (int i = 1; i <= 6; i++) {
            due(s.part(0, 18), i);
            due(s.votes(0), 0);
        }
        due(s.part(0, 0), NONE);
        due(s.votes(0), 0);

        resets();
    }

    private static void resets() {
        sentence("reset: -5 while NOW is not below its VOTES (TRIPPED or not)");
        for (int votes = 1; votes <= 6; votes++) {
            TripPanel x = voting();
            x.trip(0, votes);
            for (int i = 1; i <= 6; i++) {
                x.part(0, 0);
                due(x.reset(0), i < votes ? 0 : -5);
                due(x.tripped(0), 0);
            }
            due(x.scan(), 1);
            due(x.reset(0), -5);
            due(x.tripped(0), 1);
        }

        sentence("reset: else 0 if it was not TRIPPED, 1 if it was");
        TripPanel x = voting();
        x.trip(0, 2);
        due(x.reset(0), 0);
        x.part(0, 0);
        x.part(0, 1);
        x.scan();
        x.level(1, 4, 0, 11, false);
        due(x.votes(0), 1);
        due(x.tripped(0), 1);
        due(x.reset(0), 1);
        due(x.tripped(0), 0);
        due(x.reset(0), 0);

        sentence("reset: the trip keeps its VOTES and its conditions");
        due(x.votes(0), 1);
        due(x.part(0, 2), 3);
        due(x.reset(0), -5);
        due(x.scan(), 1);

        sentence("reset: just that trip");
        TripPanel y = voting();
        for (int t = 0; t < 8; t++) {
            y.trip(t, 1);
            y.part(t, 0);
        }
        due(y.scan(), 8);
        y.gap(0);
        due(y.reset(7), 1);
        due(y.about(5), 7);
        due(y.reset(0), 1);
        due(y.about(5), 6);
        for (int t = 0; t < 8; t++) {
            due(y.tripped(t), t == 0 || t == 7 ? 0 : 1);
        }
    }

    // ---- Terms: SCAN; promises 11 and 18

    private static void scans() {
        sentence("A SCAN: the next number (1, 2 ..)");
        TripPanel x = voting();
        due(x.about(1), 0);
        for (int scan = 1; scan <= 25; scan++) {
            x.trip(0, 1);
            x.part(0, 0);
            due(x.scan(), 1);
            due(x.about(1), scan);
            due(x.event(0, 1), scan);
        }

        sentence("Each gauge that has a GAP is STALE by one scan more");
        TripPanel y = two();
        due(y.stale(0), 0);
        for (int scan = 1; scan <= 30; scan++) {
            y.scan();
            due(y.stale(0), scan);
            due(y.stale(15), scan);
        }
        y.make(1, false);
        due(y.stale(1), 0);
        y.scan();
        due(y.stale(1), 1);
        due(y.stale(0), 31);

        sentence("STALE: a GAP by CUT is one, too");
        TripPanel z = one(false);
        z.limit(0, true, 0);
        z.take(0, 0);
        z.scan();
        due(z.stale(0), 0);
        z.take(0, 1);
        due(z.stale(0), 0);
        z.scan();
        due(z.stale(0), 1);

        sentence("each other one by none");
        TripPanel w = two();
        w.take(0, 0);
        w.scan();
        due(w.stale(0), 0);
        due(w.stale(15), 1);
        w.gap(0);
        w.take(15, 0);
        w.scan();
        due(w.stale(0), 1);
        due(w.stale(15), 0);
        w.scan();
        due(w.stale(0), 2);
        w.take(0, 0);
        w.scan();
        due(w.stale(0), 0);
        w.scan();
        due(w.stale(0), 0);

        sentence("STALE: takings, gaps and clear() between two scans leave it");
        TripPanel v = two();
        v.scan();
        v.scan();
        v.take(0, 0);
        due(v.stale(0), 2);
        v.gap(0);
        v.clear(0);
        due(v.stale(0), 2);
        v.scan();
        due(v.stale(0), 3);

        sentence("one .. whose NOW is not below its VOTES is TRIPPED");
        for (int votes = 1; votes <= 6; votes++) {
            for (int now = 0; now <= 6; now++) {
                TripPanel u = voting();
                u.trip(3, votes);
                for (int i = 0; i < 6; i++) {
                    u.part(3, i < 6 - now ? 18 + i : i);
                }
                due(u.votes(3), now);
                due(u.scan(), now >= votes ? 1 : 0);
                due(u.tripped(3), now >= votes ? 1 : 0);
                due(u.event(0, 2), now >= votes ? 6 - now : NONE);
            }
        }

        sentence("one that is not TRIPPED: another scan is no EVENT of it; it stays so");
        TripPanel t = voting();
        t.trip(0, 1);
        t.part(0, 0);
        due(t.tripped(0), 0);
        due(t.scan(), 1);
        due(t.scan(), 0);
        due(t.about(6), 1);
        t.gap(0);
        due(t.scan(), 0);
        due(t.tripped(0), 1);
        t.take(0, 10);
        due(t.scan(), 0);
        due(t.about(6), 1);

        sentence("a trip without conditions is never TRIPPED");
        TripPanel s = voting();
        s.trip(0, 1);
        due(s.scan(), 0);
        due(s.tripped(0), 0);
        due(s.reset(0), 0);
        due(s.votes(0), 0);
        due(new TripPanel().scan(), 0);
    }

    // ---- Terms: EVENT; promise 26

    private static void events() {
        sentence("the trips, from 0 on: eight EVENTS of one scan");
        TripPanel x = voting();
        for (int t = 7; t >= 0; t--) {
            x.trip(t, 1);
            x.part(t, 0);
        }
        due(x.scan(), 8);
        for (int k = 0; k < 8; k++) {
            due(x.event(k, 0), 7 - k);
            due(x.event(k, 1), 1);
        }
        due(x.event(8, 0), NONE);

        sentence("an EVENT: .. the first of its conditions that holds (not the one with the least number)");
        TripPanel y = voting();
        y.trip(0, 2);
        y.part(0, 18);
        y.part(0, 5);
        y.part(0, 2);
        y.part(0, 0);
        y.scan();
        due(y.event(0, 2), 5);
        y.trip(1, 1);
        y.part(1, 0);
        y.part(1, 5);
        y.scan();
        due(y.event(0, 2), 0);
        due(y.event(1, 2), 5);

        sentence("The latest 20 EVENTS are kept: 19, 20, 21, and each wrap-around");
        for (int count : new int[] {0, 1, 2, 19, 20, 21, 22, 39, 40, 41, 60, 61, 80}) {
            eventsAre(count);
        }

        sentence("event: what 0 the trip, 1 the scan, 2 the condition; NONE .. for another what");
        for (int what : new int[] {-1, 3, 4, MIN, MAX}) {
            due(y.event(0, what), NONE);
        }
        due(y.event(0, 0), 1);
        due(y.event(0, 1), 2);
        due(y.event(0, 2), 0);

        sentence("event: NONE without");
        for (int what = 0; what <= 2; what++) {
            for (int k : new int[] {-1, 2, 3, 20, MIN, MAX}) {
                due(y.event(k, what), NONE);
            }
            due(new TripPanel().event(0, what), NONE);
        }

        sentence("EVENTS stay when the trip, the condition or the gauge become others");
        y.trip(0, 6);
        y.trip(1, 6);
        y.level(5, 0, 0, -MOST, true);
        y.gap(0);
        y.clear(0);
        due(y.event(1, 0), 0);
        due(y.event(1, 1), 1);
        due(y.event(1, 2), 5);
        due(y.about(6), 2);
    }

    /** The i-th event (from 1 on) is one of trip i % 8, of scan i, of condition i % 6. */
    private static void eventsAre(int count) {
        TripPanel x = voting();
        for (int i = 1; i <= count; i++) {
            x.trip(i % 8, 1);
            x.part(i % 8, i % 6);
            due(x.scan(), 1);
        }
        due(x.about(6), count);
        int kept = Math.min(count, 20);
        for (int k = 0; k < kept; k++) {
            due(x.event(k, 0), (count - k) % 8);
            due(x.event(k, 1), count - k);
            due(x.event(k, 2), (count - k) % 6);
        }
        for (int what = 0; what <= 2; what++) {
            due(x.event(-1, what), NONE);
            due(x.event(kept, what), NONE);
            due(x.event(kept + 1, what), NONE);
        }
    }

    // ---- Terms: REFUSED

    private static void refusedFirst() {
        sentence("REFUSED: the first of these: -4 goes before -2");
        TripPanel x = two();
        for (int g : NO_GAUGES) {
            for (int n : NO_NUMBERS) {
                due(x.limit(g, true, n), -4);
                due(x.take(g, n), -4);
                due(x.level(0, 0, g, n, false), -4);
                due(x.since(g, 0, n), -4);
                due(x.counted(g, 0, n), -4);
            }
        }
        TripPanel y = two();
        for (int g : NO_GAUGES) {
            due(y.band(g, -1), -4);
            due(y.band(g, MOST_BAND + 1), -4);
            for (int relation : NO_RELATIONS) {
                due(y.stands(g, relation, 0), -4);
                due(y.stands(0, relation, g), -4);
                due(y.between(0, relation, g, 0, false), -4);
                due(y.between(0, relation, 0, g, false), -4);
                due(y.level(0, relation, g, 0, false), -4);
                due(y.since(g, relation, 0), -4);
                due(y.counted(g, relation, 0), -4);
            }
            for (int c : new int[] {-1, 24}) {
                due(y.between(c, 0, g, 0, false), -4);
                due(y.between(c, 0, 0, g, false), -4);
                due(y.level(c, 0, g, 0, false), -4);
            }
        }

        sentence("REFUSED: trip's -4 for the trip, for the votes, for both");
        due(y.trip(8, 1), -4);
        due(y.trip(7, 7), -4);
        due(y.trip(8, 7), -4);
        due(y.trip(-1, 0), -4);
        due(y.trip(7, 6), 1);

        sentence("part: -2 goes before NONE");
        TripPanel z = voting();
        z.trip(0, 1);
        for (int i = 0; i < 6; i++) {
            z.part(0, 0);
        }
        due(z.part(0, 0), NONE);
        due(z.part(0, 6), -2);
        due(z.part(0, 24), -2);
        due(z.part(0, -1), -2);
        due(z.part(8, 0), -2);
        due(z.part(8, 24), -2);
    }

    /** A panel on which each kind of thing is there, partly full. */
    private static TripPanel rich() {
        TripPanel x = two();
        x.make(2, false);
        x.make(3, true);
        x.limit(0, true, 1000);
        x.limit(0, false, -1000);
        x.limit(15, false, -500);
        x.band(0, 20);
        x.band(15, 100);
        for (int i = 0; i < 13; i++) {
            x.take(0, 40 * i);
        }
        x.take(0, 1001);
        x.take(0, 300);
        x.take(15, 300);
        x.take(15, 350);
        x.take(3, 16777217);
        x.level(0, 3, 0, 100, false);
        x.level(23, 5, 2, 0, false);
        x.between(2, 0, 0, 15, true);
        x.trip(0, 2);
        x.trip(7, 1);
        x.trip(3, 6);
        for (int i = 0; i < 6; i++) {
            x.part(0, i % 2 == 0 ? 0 : 23);
        }
        x.part(7, 2);
        x.part(3, 23);
        x.scan();
        x.scan();
        return x;
    }

    /** What a panel answers to calls that show, and then try out, all that it holds. */
    private static List<Integer> told(TripPanel x) {
        List<Integer> told = new ArrayList<>();
        for (int g : new int[] {0, 2, 3, 15, 1}) {
            told.addAll(Arrays.asList(x.shown(g), x.mark(g, true), x.mark(g, false), x.stale(g)));
            told.addAll(Arrays.asList(x.counted(g, 5, 17), x.counted(g, 3, -MOST), x.since(g, 3, 480), x.since(g, 0, 300)));
        }
        for (int what = 0; what <= 6; what++) {
            told.add(x.about(what));
        }
        for (int c = 0; c <= 23; c++) {
            told.add(x.holds(c));
        }
        for (int t = 0; t <= 7; t++) {
            told.addAll(Arrays.asList(x.votes(t), x.tripped(t)));
        }
        for (int k = 0; k < 5; k++) {
            told.addAll(Arrays.asList(x.order(k), x.event(k, 0), x.event(k, 1), x.event(k, 2)));
        }
        told.addAll(Arrays.asList(x.extreme(true), x.extreme(false)));
        for (int g : new int[] {0, 2, 3, 15}) {
            for (int n : new int[] {320, 321, 300, 1000, 1001, -1000, -1001, -500, -501, 200, 300}) {
                told.add(x.take(g, n));
            }
            told.addAll(Arrays.asList(x.open(g, true), x.open(g, false), x.make(g, false), x.stands(g, 1, 0)));
        }
        for (int t : new int[] {0, 3, 7}) {
            told.addAll(Arrays.asList(x.reset(t), x.part(t, 0), x.part(t, 0), x.votes(t)));
        }
        x.gap(0);
        x.gap(2);
        for (int t : new int[] {0, 3, 7}) {
            told.addAll(Arrays.asList(x.votes(t), x.reset(t)));
        }
        told.addAll(Arrays.asList(x.scan(), x.about(1), x.about(5), x.about(6), x.event(0, 0), x.event(0, 1)));
        return told;
    }

    private static void unchanged(String call, ToIntFunction<TripPanel> refused, int want) {
        sentence("with nothing changed: " + call);
        TripPanel x = rich();
        due(refused.applyAsInt(x), want);
        List<Integer> got = told(x);
        List<Integer> twin = told(rich());
        for (int i = 0; i < twin.size(); i++) {
            due(got.get(i), twin.get(i));
        }
    }

    private static void refusedWithNothingChanged() {
        unchanged("make(16)", x -> x.make(16, true), -4);
        unchanged("make(-1)", x -> x.make(-1, true), -4);
        unchanged("make, it is there", x -> x.make(3, false), 0);
        unchanged("limit, n too large", x -> x.limit(0, true, MOST + 1), -4);
        unchanged("limit, n too small", x -> x.limit(0, false, -MOST - 1), -4);
        unchanged("limit, n is GAP", x -> x.limit(0, true, GAP), -4);
        unchanged("limit, no gauge", x -> x.limit(1, true, 0), -2);
        unchanged("open, no gauge", x -> x.open(1, true), -2);
        unchanged("open, none there", x -> x.open(15, true), 0);
        unchanged("band, too large", x -> x.band(0, MOST_BAND + 1), -4);
        unchanged("band, too small", x -> x.band(0, -1), -4);
        unchanged("band, no gauge", x -> x.band(16, 5), -2);
        unchanged("take, too large", x -> x.take(0, MOST + 1), -4);
        unchanged("take, too small", x -> x.take(0, -MOST - 1), -4);
        unchanged("take, n is GAP", x -> x.take(0, GAP), -4);
        unchanged("take, no gauge", x -> x.take(1, 0), -2);
        unchanged("gap, no gauge", x -> x.gap(1), -2);
        unchanged("clear, no gauge", x -> x.clear(16), -2);
        unchanged("stands, no relation", x -> x.stands(0, 6, 2), -4);
        unchanged("stands, no gauge", x -> x.stands(0, 5, 1), -2);
        unchanged("between, c too large", x -> x.between(24, 0, 0, 2, false), -4);
        unchanged("between, c too small", x -> x.between(-1, 0, 0, 2, false), -4);
        unchanged("between, no relation", x -> x.between(0, 6, 0, 2, false), -4);
        unchanged("between, no gauge a, of a new one", x -> x.between(5, 5, 1, 2, false), -2);
        unchanged("between, no gauge a", x -> x.between(0, 5, 1, 2, true), -2);
        unchanged("between, no gauge b", x -> x.between(0, 0, 2, 1, true), -2);
        unchanged("level, c too large", x -> x.level(24, 0, 0, 2, false), -4);
        unchanged("level, no relation", x -> x.level(0, -1, 0, 2, false), -4);
        unchanged("level, n too large", x -> x.level(0, 0, 0, MOST + 1, false), -4);
        unchanged("level, n too small", x -> x.level(0, 2, 0, -MOST - 1, true), -4);
        unchanged("level, no gauge", x -> x.level(0, 0, 16, 0, true), -2);
        unchanged("level, no gauge, of a new one", x -> x.level(5, 0, 1, 0, true), -2);
        unchanged("trip, t too large", x -> x.trip(8, 1), -4);
        unchanged("trip, t too small", x -> x.trip(-1, 1), -4);
        unchanged("trip, votes too many", x -> x.trip(0, 7), -4);
        unchanged("trip, votes too few", x -> x.trip(0, 0), -4);
        unchanged("trip, votes too few, of a new one", x -> x.trip(1, 0), -4);
        unchanged("part, no trip", x -> x.part(1, 0), -2);
        unchanged("part, no condition", x -> x.part(7, 1), -2);
        unchanged("part, it has six", x -> x.part(0, 2), NONE);
        unchanged("reset, no trip", x -> x.reset(1), -2);
        unchanged("reset, still voted for", x -> x.reset(0), -5);
        unchanged("reset, not TRIPPED", x -> x.reset(3), 0);
        unchanged("since, no relation", x -> x.since(0, 6, 0), -4);
        unchanged("since", x -> x.since(0, 4, 300), 0);
        unchanged("counted, no gauge", x -> x.counted(1, 0, 0), -2);
        unchanged("counted", x -> x.counted(0, 4, 300), 1);
        unchanged("order", x -> x.order(4), NONE);
        unchanged("event", x -> x.event(20, 0), NONE);
        unchanged("about", x -> x.about(7), NONE);
    }

    // ---- Promise 1

    private static void newObject() {
        sentence("TripPanel(): No gauges, conditions, trips; no scan yet");
        TripPanel x = new TripPanel();
        for (int i = -1; i <= 24; i++) {
            due(x.shown(i), GAP);
            due(x.mark(i, true), GAP);
            due(x.stale(i), -2);
            due(x.stands(i, 5, i), -2);
            due(x.holds(i), -2);
            due(x.votes(i), -2);
            due(x.tripped(i), -2);
            due(x.reset(i), -2);
            due(x.part(i, i), -2);
            due(x.order(i), NONE);
        }
        for (int what = 0; what <= 6; what++) {
            due(x.about(what), 0);
        }
        due(x.event(0, 1), NONE);
        due(x.extreme(true), NONE);

        sentence("a new object has nothing of an older one");
        rich();
        for (int what = 0; what <= 6; what++) {
            due(new TripPanel().about(what), 0);
        }
        due(new TripPanel().event(0, 0), NONE);
    }

    // ---- Promise 22

    private static void orders() {
        sentence("order: place k (0 ..); NONE without: 0, 1 and 16 gauges");
        TripPanel x = new TripPanel();
        for (int g = 0; g <= 16; g++) {
            orderEnds(x, g);
            if (g < 16) {
                x.make(g, g % 2 == 0);
            }
        }

        sentence("order: those that have values, from the greatest on; then those that have GAPS, by number");
        TripPanel y = new TripPanel();
        for (int g = 15; g >= 0; g--) {
            y.make(g, false);
        }
        for (int k = 0; k <= 15; k++) {
            due(y.order(k), k);
        }
        for (int g = 0; g <= 15; g++) {
            y.take(g, g);
        }
        for (int k = 0; k <= 15; k++) {
            due(y.order(k), 15 - k);
        }
        y.gap(15);
        y.gap(0);
        y.gap(7);
        orderIs(y, 14, 13, 12, 11, 10, 9, 8, 6, 5, 4, 3, 2, 1, 0, 7, 15);
        y.take(7, -MOST);
        orderIs(y, 14, 13, 12, 11, 10, 9, 8, 6, 5, 4, 3, 2, 1, 7, 0, 15);
        y.take(7, MOST);
        orderIs(y, 7, 14, 13, 12, 11, 10, 9, 8, 6, 5, 4, 3, 2, 1, 0, 15);

        sentence("order: of the same value by number");
        TripPanel z = two();
        z.make(1, false);
        z.make(2, true);
        for (int g : new int[] {15, 2, 1, 0}) {
            z.take(g, 500);
        }
        orderIs(z, 0, 1, 2, 15);
        z.take(0, 499);
        orderIs(z, 1, 2, 15, 0);
        z.take(15, 501);
        orderIs(z, 15, 1, 2, 0);

        sentence("order: as doubles (0.1f is above 0.1, 0.7f below 0.7)");
        TripPanel w = two();
        w.make(1, true);
        w.take(0, 100);
        w.take(1, 100);
        w.take(15, 100);
        orderIs(w, 1, 15, 0);
        w.take(0, 700);
        w.take(1, 700);
        w.take(15, 700);
        orderIs(w, 0, 1, 15);
        // As floats these three would be the same.
        w.take(0, 16777217);
        w.take(1, 16777217);
        w.take(15, 16777216);
        orderIs(w, 0, 1, 15);
        w.take(0, 16777216);
        orderIs(w, 1, 15, 0);
    }

    private static void orderEnds(TripPanel x, int count) {
        due(x.order(-1), NONE);
        due(x.order(0), count == 0 ? NONE : 0);
        due(x.order(count - 1), count - 1);
        due(x.order(count), NONE);
        due(x.order(count + 1), NONE);
        due(x.order(MIN), NONE);
        due(x.order(MAX), NONE);
    }

    private static void orderIs(TripPanel x, int... want) {
        for (int k = 0; k < want.length; k++) {
            due(x.order(k), want[k]);
        }
        due(x.order(want.length), NONE);
        due(x.order(-1), NONE);
    }

    // ---- Promise 23

    private static void extremes() {
        sentence("extreme: NONE if none has a value");
        due(new TripPanel().extreme(true), NONE);
        due(new TripPanel().extreme(false), NONE);
        TripPanel x = two();
        extremesAre(x, NONE, NONE);
        x.take(15, 0);
        extremesAre(x, 15, 15);
        x.gap(15);
        extremesAre(x, NONE, NONE);
        x.take(0, -MOST);
        extremesAre(x, 0, 0);

        sentence("extreme: the greatest value, or the least one: by one more or less");
        TripPanel y = two();
        y.make(7, false);
        y.take(0, 0);
        y.take(7, 1);
        y.take(15, -1);
        extremesAre(y, 7, 15);
        y.take(0, 2);
        extremesAre(y, 0, 15);
        y.take(0, -2);
        extremesAre(y, 7, 0);
        y.take(15, MOST);
        y.take(7, -MOST);
        extremesAre(y, 15, 7);

        sentence("extreme: of the same the least number");
        TripPanel z = two();
        z.make(7, true);
        z.take(15, 500);
        z.take(7, 500);
        extremesAre(z, 7, 7);
        z.take(0, 500);
        extremesAre(z, 0, 0);
        z.take(0, 499);
        extremesAre(z, 7, 0);
        z.take(0, 501);
        extremesAre(z, 0, 7);

        sentence("extreme: as doubles (0.1f is above 0.1, 0.7f below 0.7)");
        TripPanel w = two();
        w.take(0, 100);
        w.take(15, 100);
        extremesAre(w, 15, 0);
        w.take(0, 700);
        w.take(15, 700);
        extremesAre(w, 0, 15);
        w.take(0, 125);
        w.take(15, 125);
        extremesAre(w, 0, 0);
    }

    private static void extremesAre(TripPanel x, int greatest, int least) {
        due(x.extreme(true), greatest);
        due(x.extreme(false), least);
    }

    // ---- Promise 27

    private static void abouts() {
        sentence("about: 0 .. 6; NONE for others");
        TripPanel x = rich();
        for (int what : new int[] {-1, 7, 8, MIN, MAX}) {
            due(x.about(what), NONE);
        }
        due(x.about(0), 4);
        due(x.about(1), 2);
        due(x.about(5), 1);
        due(x.about(6), 1);

        sentence("about: takings that MOVED, were STEADY, were CUT, each counted once and alone");
        TripPanel y = two();
        aboutTakings(y, 0, 0, 0);
        y.take(0, 5);
        aboutTakings(y, 1, 0, 0);
        y.take(0, 5);
        aboutTakings(y, 1, 1, 0);
        y.limit(0, true, 4);
        y.take(0, 5);
        aboutTakings(y, 1, 1, 1);
        y.take(15, 5);
        y.take(15, 5);
        aboutTakings(y, 2, 2, 1);
        y.take(0, MOST + 1);
        y.take(1, 0);
        y.gap(15);
        y.clear(15);
        aboutTakings(y, 2, 2, 1);

        sentence("about: trips that are TRIPPED, EVENTS ever (more than are kept)");
        TripPanel z = voting();
        for (int t = 0; t <= 7; t++) {
            z.trip(t, 1);
            z.part(t, 0);
        }
        for (int round = 1; round <= 3; round++) {
            z.take(0, 10);
            z.scan();
            due(z.about(5), 8);
            due(z.about(6), 8 * round);
            z.gap(0);
            for (int t = 0; t <= 7; t++) {
                due(z.reset(t), 1);
                due(z.about(5), 7 - t);
            }
        }
        due(z.about(6), 24);
    }

    private static void aboutTakings(TripPanel x, int moved, int steady, int cut) {
        due(x.about(2), moved);
        due(x.about(3), steady);
        due(x.about(4), cut);
    }

    // ---- An object is used for at most 512 calls

    private static void manyCalls() {
        sentence("at most 512 calls: as many takings as can be");
        TripPanel x = one(false);
        for (int i = 0; i < 500; i++) {
            due(x.take(0, i), 2);
        }
        due(x.about(2), 500);
        due(x.counted(0, 5, -1), 12);
        due(x.since(0, 4, 488), 11);
        due(x.since(0, 4, 487), 12);
        due(x.mark(0, true), 499);
        due(x.mark(0, false), 0);

        sentence("at most 512 calls: as many scans as can be");
        TripPanel y = one(false);
        for (int i = 0; i < 509; i++) {
            due(y.scan(), 0);
        }
        due(y.stale(0), 509);
        due(y.about(1), 509);

        sentence("at most 512 calls: as many EVENTS as can be");
        TripPanel z = voting();
        for (int i = 0; i < 28; i++) {
            for (int t = 0; t <= 7; t++) {
                z.trip(t, 1);
                z.part(t, 0);
            }
            due(z.scan(), 8);
        }
        due(z.about(6), 224);
        due(z.event(19, 0), 4);
        due(z.event(19, 1), 26);
        due(z.event(20, 0), NONE);
    }
}
