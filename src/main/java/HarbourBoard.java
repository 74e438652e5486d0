import java.util.NoSuchElementException;

/** A harbour's board of gauges; ../shared/DOC.md says what each call promises. */
public final class HarbourBoard {
    public static final int NONE = -1;

    private static final int GAUGES = 6;
    private static final int STRIP_LIMIT = 12;

    private static final int LEVELS = 0;
    private static final int WINDS = 1;
    private static final int WHATS = 2;

    private static final int LOW = 0;
    private static final int HIGH = 1;
    private static final int GALE = 2;
    private static final int MARKS = 3;

    private static final int BELOW = 0;
    private static final int AT_MOST = 1;
    private static final int ABOVE = 2;
    private static final int AT_LEAST = 3;
    private static final int EQUAL_TO = 4;
    private static final int UNLIKE = 5;
    private static final int RELATIONS = 6;

    private static final int LEAST_LEVEL = -1000;
    private static final int GREATEST_LEVEL = 1000;
    private static final int LEAST_WIND = 0;
    private static final int GREATEST_WIND = 200;

    private static final int INSIDE = 0;
    private static final int OUTSIDE = 1;

    private final Gauge[] gauges;
    private final Reading[] probes;
    private boolean gateOpen;
    private int gateMoves;

    public HarbourBoard() {
        gauges = new Gauge[GAUGES];
        for (int g = 0; g < GAUGES; g++) {
            gauges[g] = new Gauge();
        }
        probes = new Reading[WHATS];
        for (int what = 0; what < WHATS; what++) {
            probes[what] = new Reading();
        }
        gateOpen = false;
        gateMoves = 0;
    }

    public int level(int g, double v) throws IllegalArgumentException, IllegalStateException {
        requireGauge(g);
        requireLevel(v);
        return comeTo(gauges[g].strips[LEVELS], new Reading(v));
    }

    public int wind(int g, float v) throws IllegalArgumentException, IllegalStateException {
        requireGauge(g);
        requireWind(v);
        return comeTo(gauges[g].strips[WINDS], new Reading(v));
    }

    public int out(int g, int what) throws IllegalArgumentException, IllegalStateException {
        requireGauge(g);
        requireWhat(what);
        return comeTo(gauges[g].strips[what], new Reading());
    }

    public int clear(int g) throws IllegalArgumentException {
        requireGauge(g);
        Gauge gauge = gauges[g];
        return gauge.strips[LEVELS].removeAll() + gauge.strips[WINDS].removeAll();
    }

    public boolean mark(int g, int mark, double v) throws IllegalArgumentException {
        requireGauge(g);
        if (mark != LOW && mark != HIGH) {
            throw new IllegalArgumentException("no such mark of levels");
        }
        requireLevel(v);
        return gauges[g].replaceMark(mark, new Reading(v));
    }

    public boolean gale(int g, float v) throws IllegalArgumentException {
        requireGauge(g);
        requireWind(v);
        return gauges[g].replaceMark(GALE, new Reading(v));
    }

    public boolean lift(int g, int mark) throws IllegalArgumentException {
        requireGauge(g);
        if (mark < 0 || mark >= MARKS) {
            throw new IllegalArgumentException("no such mark");
        }
        return gauges[g].replaceMark(mark, new Reading());
    }

    public int probe(double v) throws IllegalArgumentException {
        requireLevel(v);
        probes[LEVELS] = new Reading(v);
        return gaugesAtProbe(LEVELS, EQUAL_TO);
    }

    public int probeWind(float v) throws IllegalArgumentException {
        requireWind(v);
        probes[WINDS] = new Reading(v);
        return gaugesAtProbe(WINDS, EQUAL_TO);
    }

    public int probeOut(int what) throws IllegalArgumentException {
        requireWhat(what);
        probes[what] = new Reading();
        return gaugesAtProbe(what, UNLIKE);
    }

    public int run(int g, int what, int relation, boolean back) throws IllegalArgumentException {
        requireGauge(g);
        requireWhat(what);
        requireRelation(relation);
        Strip strip = gauges[g].strips[what];
        return back
            ? failingFromLatest(strip, relation, probes[what])
            : holdingFromOldest(strip, relation, probes[what]);
    }

    public int count(int g, int what, int relation, boolean not) throws IllegalArgumentException {
        requireGauge(g);
        requireWhat(what);
        requireRelation(relation);
        Strip strip = gauges[g].strips[what];
        int found = 0;
        for (int i = 0; i < strip.length; i++) {
            if (strip.at(i).relates(relation, probes[what]) != not) {
                found++;
            }
        }
        return found;
    }

    public boolean holds(int g, int h, int what, int relation) throws IllegalArgumentException {
        requireGauge(g);
        requireGauge(h);
        requireWhat(what);
        requireRelation(relation);
        return gauges[g].latest(what).relates(relation, gauges[h].latest(what));
    }

    public int pick(int g, int h, int what, int relation) throws IllegalArgumentException {
        requireGauge(g);
        requireGauge(h);
        requireWhat(what);
        requireRelation(relation);
        Reading ofG = gauges[g].latest(what);
        Reading ofH = gauges[h].latest(what);
        if (ofG.relates(relation, ofH)) {
            return g;
        }
        return ofH.relates(relation, ofG) ? h : NONE;
    }

    public int stand(int g) throws IllegalArgumentException {
        requireGauge(g);
        return levelStand(gauges[g]) + windStand(gauges[g]);
    }

    public int order(int k) throws IllegalArgumentException {
        if (k < 0 || k >= GAUGES) {
            throw new IllegalArgumentException("no such place in the order");
        }
        for (int g = 0; g < GAUGES; g++) {
            if (gaugesAheadOf(g) == k) {
                return g;
            }
        }
        // Every place has its gauge, since the order leaves no two alike.
        return NONE;
    }

    public double highest(int g) throws IllegalArgumentException, NoSuchElementException {
        requireGauge(g);
        return foremostNumber(gauges[g].strips[LEVELS], ABOVE);
    }

    public float calmest(int g) throws IllegalArgumentException, NoSuchElementException {
        requireGauge(g);
        // Nothing is lost here: every wind came in as a float.
        return (float) foremostNumber(gauges[g].strips[WINDS], BELOW);
    }

    public int same(int g, int h) throws IllegalArgumentException {
        requireGauge(g);
        requireGauge(h);
        Strip ofG = gauges[g].strips[LEVELS];
        Strip ofH = gauges[h].strips[LEVELS];
        if (ofG.length != ofH.length) {
            return 0;
        }
        int answer = 2;
        for (int i = 0; i < ofG.length; i++) {
            if (!ofG.at(i).matches(ofH.at(i))) {
                return 0;
            }
            if (!ofG.at(i).isNumber) {
                answer = 1;
            }
        }
        return answer;
    }

    public int move(boolean open)
            throws IllegalStateException, UnsupportedOperationException, ArithmeticException {
        if (open == gateOpen) {
            throw new IllegalStateException("the gate is so already");
        }
        if (open) {
            requireMayOpen();
        } else {
            requireMayShut();
        }
        gateOpen = open;
        gateMoves++;
        return gateMoves;
    }

    public int size(int g, int what) throws IllegalArgumentException {
        requireGauge(g);
        requireWhat(what);
        return gauges[g].strips[what].length;
    }

    private static void requireGauge(int g) {
        if (g < 0 || g >= GAUGES) {
            throw new IllegalArgumentException("no such gauge");
        }
    }

    private static void requireWhat(int what) {
        if (what < 0 || what >= WHATS) {
            throw new IllegalArgumentException("no such what");
        }
    }

    private static void requireRelation(int relation) {
        if (relation < 0 || relation >= RELATIONS) {
            throw new IllegalArgumentException("no such relation");
        }
    }

    // Asked as "not within", so that NaN, which is neither below nor above, is refused too.
    private static void requireLevel(double v) {
        if (!(v >= LEAST_LEVEL && v <= GREATEST_LEVEL)) {
            throw new IllegalArgumentException("no such level");
        }
    }

    // Takes a float, so that no NaN is widened to a double before it is refused.
    private static void requireWind(float v) {
        if (!(v >= LEAST_WIND && v <= GREATEST_WIND)) {
            throw new IllegalArgumentException("no such wind");
        }
    }

    private static int comeTo(Strip strip, Reading reading) {
        if (strip.length >= STRIP_LIMIT) {
            throw new IllegalStateException("the strip is full");
        }
        return strip.append(reading);
    }

    private int gaugesAtProbe(int what, int relation) {
        int found = 0;
        for (int g = 0; g < GAUGES; g++) {
            if (gauges[g].latest(what).relates(relation, probes[what])) {
                found++;
            }
        }
        return found;
    }

    private static int holdingFromOldest(Strip strip, int relation, Reading probed) {
        int found = 0;
        while (found < strip.length && strip.at(found).relates(relation, probed)) {
            found++;
        }
        return found;
    }

    private static int failingFromLatest(Strip strip, int relation, Reading probed) {
        int found = 0;
        while (found < strip.length
                && !strip.at(strip.length - 1 - found).relates(relation, probed)) {
            found++;
        }
        return found;
    }

    private static int levelStand(Gauge gauge) {
        Reading latest = gauge.latest(LEVELS);
        Reading low = gauge.marks[LOW];
        Reading high = gauge.marks[HIGH];
        if (gauge.strips[LEVELS].length == 0) {
            return 0;
        }
        if (!latest.isNumber) {
            return 1;
        }
        if (latest.relates(BELOW, low)) {
            return 2;
        }
        if (latest.relates(ABOVE, high)) {
            return 3;
        }
        if (latest.relates(EQUAL_TO, low) || latest.relates(EQUAL_TO, high)) {
            return 4;
        }
        return !low.isNumber && !high.isNumber ? 5 : 6;
    }

    private static int windStand(Gauge gauge) {
        Reading latest = gauge.latest(WINDS);
        Reading galeMark = gauge.marks[GALE];
        if (latest.relates(BELOW, galeMark)) {
            return 10;
        }
        if (latest.relates(AT_LEAST, galeMark)) {
            return 20;
        }
        return galeMark.isNumber && !latest.isNumber ? 30 : 0;
    }

    private int gaugesAheadOf(int g) {
        int ahead = 0;
        for (int h = 0; h < GAUGES; h++) {
            if (isAhead(h, g)) {
                ahead++;
            }
        }
        return ahead;
    }

    private boolean isAhead(int h, int g) {
        Reading ofH = gauges[h].latest(LEVELS);
        Reading ofG = gauges[g].latest(LEVELS);
        if (ofH.matches(ofG)) {
            return h < g;
        }
        // The relations are silent about OUT, which the order puts behind all numbers.
        return ofH.relates(ABOVE, ofG) || ofH.isNumber && !ofG.isNumber;
    }

    private static double foremostNumber(Strip strip, int relation) {
        Reading best = strip.none;
        for (int i = 0; i < strip.length; i++) {
            Reading next = strip.at(i);
            if (!best.isNumber || next.relates(relation, best)) {
                best = next;
            }
        }
        if (!best.isNumber) {
            throw new NoSuchElementException("no number in the strip");
        }
        return best.number;
    }

    private void requireMayOpen() {
        Gauge inside = gauges[INSIDE];
        Gauge outside = gauges[OUTSIDE];
        if (!inside.latest(LEVELS).relates(ABOVE, outside.latest(LEVELS))) {
            throw new UnsupportedOperationException("inside is not above outside");
        }
        Reading galeMark = outside.marks[GALE];
        if (galeMark.isNumber && !outside.latest(WINDS).relates(BELOW, galeMark)) {
            throw new ArithmeticException("the wind outside is not below the gale");
        }
    }

    private void requireMayShut() {
        Gauge inside = gauges[INSIDE];
        if (inside.latest(LEVELS).relates(ABOVE, inside.marks[LOW])) {
            throw new UnsupportedOperationException("inside is above its low mark");
        }
        // AT_MOST holds between two numbers alone, so it asks by itself that both are there.
        if (gauges[OUTSIDE].latest(LEVELS).relates(AT_MOST, inside.marks[HIGH])) {
            throw new ArithmeticException("outside is at most the high mark of inside");
        }
    }

    /** A number or OUT. A wind is held as a double, which keeps every float as it is. */
    private static final class Reading {
        final boolean isNumber;
        final double number;

        Reading() {
            isNumber = false;
            number = 0;
        }

        Reading(double v) {
            isNumber = true;
            number = v;
        }

        boolean relates(int relation, Reading other) {
            if (!isNumber || !other.isNumber) {
                return relation == UNLIKE;
            }
            switch (relation) {
                case BELOW:
                    return number < other.number;
                case AT_MOST:
                    return number <= other.number;
                case ABOVE:
                    return number > other.number;
                case AT_LEAST:
                    return number >= other.number;
                case EQUAL_TO:
                    return number == other.number;
                default:
                    return number != other.number;
            }
        }

        boolean matches(Reading other) {
            return !isNumber && !other.isNumber || relates(EQUAL_TO, other);
        }
    }

    /** Readings of one kind, the oldest first. */
    private static final class Strip {
        final Reading none;
        private final Reading[] readings;
        int length;

        Strip() {
            none = new Reading();
            readings = new Reading[STRIP_LIMIT];
            for (int i = 0; i < STRIP_LIMIT; i++) {
                readings[i] = none;
            }
            length = 0;
        }

        int append(Reading reading) {
            if (length < STRIP_LIMIT) {
                readings[length] = reading;
                length++;
            }
            return length;
        }

        int removeAll() {
            int removed = length;
            length = 0;
            return removed;
        }

        Reading at(int i) {
            return i >= 0 && i < length ? readings[i] : none;
        }
    }

    /** The two strips and the three marks of one gauge. */
    private static final class Gauge {
        final Strip[] strips;
        final Reading[] marks;

        Gauge() {
            strips = new Strip[WHATS];
            for (int what = 0; what < WHATS; what++) {
                strips[what] = new Strip();
            }
            marks = new Reading[MARKS];
            for (int mark = 0; mark < MARKS; mark++) {
                marks[mark] = new Reading();
            }
        }

        Reading latest(int what) {
            Strip strip = strips[what];
            return strip.at(strip.length - 1);
        }

        boolean replaceMark(int mark, Reading reading) {
            boolean wasSet = marks[mark].isNumber;
            marks[mark] = reading;
            return wasSet;
        }
    }
}
