/** Each argument of each call: the least and the greatest that it may be, and the one beyond it on either side. */
public final class BoundsTest {
    private interface IntCall {
        Object on(HarbourBoard b, int i);
    }

    private interface LevelCall {
        Object on(HarbourBoard b, double v);
    }

    private interface WindCall {
        Object on(HarbourBoard b, float v);
    }

    public static void main(String[] args) {
        gaugesOfCallsThatChange();
        gaugesOfCallsThatAsk();
        gaugesOfPairs();
        whats();
        marks();
        relations();
        placesInTheOrder();
        levels();
        winds();
        theConstant();
        Due.finish();
    }

    /**
     * Gauge g has the levels 1 .. g + 1 and the winds 19 down to 18 - g, even gauges have a LOW of 0, odd ones
     * a GALE of 15, and the probes are 3 and 17: so that no two gauges, strips or marks answer alike.
     */
    private static HarbourBoard stairs() {
        HarbourBoard b = new HarbourBoard();
        for (int g = 0; g < 6; g++) {
            for (int v = 1; v <= g + 1; v++) {
                b.level(g, v);
            }
            for (int v = 19; v >= 18 - g; v--) {
                b.wind(g, v);
            }
            if (g % 2 == 0) {
                b.mark(g, 0, 0);
            } else {
                b.gale(g, 15);
            }
        }
        b.probe(3);
        b.probeWind(17);
        return b;
    }

    /** The call is allowed from 0 on with these answers, and refused with each number beyond them. */
    private static void ints(String name, IntCall call, Object... due) {
        for (int i = 0; i < due.length; i++) {
            int allowed = i;
            HarbourBoard b = stairs();
            Due.is(name + " " + i, () -> call.on(b, allowed), due[i]);
        }
        HarbourBoard b = stairs();
        for (int i : new int[] {-1, due.length, Integer.MIN_VALUE, Integer.MAX_VALUE, -due.length, 256, 65536}) {
            Due.is(name + " " + i, () -> call.on(b, i), Due.ARGUMENT);
        }
    }

    private static void gaugesOfCallsThatChange() {
        ints("2 level of gauge", (b, g) -> b.level(g, 0), 2, 3, 4, 5, 6, 7);
        ints("3 wind of gauge", (b, g) -> b.wind(g, 0), 3, 4, 5, 6, 7, 8);
        ints("4 out of levels of gauge", (b, g) -> b.out(g, 0), 2, 3, 4, 5, 6, 7);
        ints("4 out of winds of gauge", (b, g) -> b.out(g, 1), 3, 4, 5, 6, 7, 8);
        ints("5 clear of gauge", (b, g) -> b.clear(g), 3, 5, 7, 9, 11, 13);
        ints("6 LOW of gauge", (b, g) -> b.mark(g, 0, 0), true, false, true, false, true, false);
        ints("6 HIGH of gauge", (b, g) -> b.mark(g, 1, 0), false, false, false, false, false, false);
        ints("7 gale of gauge", (b, g) -> b.gale(g, 0), false, true, false, true, false, true);
        ints("8 lift LOW of gauge", (b, g) -> b.lift(g, 0), true, false, true, false, true, false);
        ints("8 lift HIGH of gauge", (b, g) -> b.lift(g, 1), false, false, false, false, false, false);
        ints("8 lift GALE of gauge", (b, g) -> b.lift(g, 2), false, true, false, true, false, true);
    }

    private static void gaugesOfCallsThatAsk() {
        ints("12 run of gauge", (b, g) -> b.run(g, 0, 1, false), 1, 2, 3, 3, 3, 3);
        ints("12 run back of gauge", (b, g) -> b.run(g, 0, 1, true), 0, 0, 0, 1, 2, 3);
        ints("13 count of gauge", (b, g) -> b.count(g, 0, 0, false), 1, 2, 2, 2, 2, 2);
        ints("13 count, not, of gauge", (b, g) -> b.count(g, 0, 0, true), 0, 0, 1, 2, 3, 4);
        ints("16 stand of gauge", (b, g) -> b.stand(g), 6, 25, 6, 25, 6, 15);
        ints("18 highest of gauge", (b, g) -> b.highest(g), 1.0, 2.0, 3.0, 4.0, 5.0, 6.0);
        ints("19 calmest of gauge", (b, g) -> b.calmest(g), 18f, 17f, 16f, 15f, 14f, 13f);
        ints("22 size of levels of gauge", (b, g) -> b.size(g, 0), 1, 2, 3, 4, 5, 6);
        ints("22 size of winds of gauge", (b, g) -> b.size(g, 1), 2, 3, 4, 5, 6, 7);
    }

    private static void gaugesOfPairs() {
        ints("14 holds, the one is gauge", (b, g) -> b.holds(g, 2, 0, 2), false, false, false, true, true, true);
        ints("14 holds, the other is gauge", (b, h) -> b.holds(2, h, 0, 2), true, true, false, false, false, false);
        ints("15 pick, the one is gauge", (b, g) -> b.pick(g, 2, 0, 2), 2, 2, -1, 3, 4, 5);
        ints("15 pick, the other is gauge", (b, h) -> b.pick(2, h, 0, 2), 2, 2, -1, 3, 4, 5);
        ints("20 same, the one is gauge", (b, g) -> b.same(g, 3), 0, 0, 0, 2, 0, 0);
        ints("20 same, the other is gauge", (b, h) -> b.same(3, h), 0, 0, 0, 2, 0, 0);
    }

    private static void whats() {
        ints("4 out of what", (b, what) -> b.out(3, what), 5, 6);
        ints("11 probeOut of what", (b, what) -> b.probeOut(what), 6, 6);
        ints("12 run of what", (b, what) -> b.run(5, what, 3, false), 0, 3);
        ints("12 run back of what", (b, what) -> b.run(5, what, 3, true), 0, 4);
        ints("13 count of what", (b, what) -> b.count(5, what, 2, false), 3, 2);
        ints("13 count, not, of what", (b, what) -> b.count(5, what, 2, true), 3, 5);
        ints("14 holds of what", (b, what) -> b.holds(1, 2, what, 0), true, false);
        ints("15 pick of what", (b, what) -> b.pick(1, 2, what, 2), 2, 1);
        ints("22 size of what", (b, what) -> b.size(5, what), 6, 7);
    }

    private static void marks() {
        // GALE is a mark, but no level: mark has LOW and HIGH alone.
        ints("6 mark", (b, mark) -> b.mark(2, mark, 0), true, false);
        ints("6 mark of a gauge with a GALE", (b, mark) -> b.mark(1, mark, 0), false, false);
        ints("8 lift", (b, mark) -> b.lift(2, mark), true, false, false);
        ints("8 lift of a gauge with a GALE", (b, mark) -> b.lift(1, mark), false, false, true);
    }

    private static void relations() {
        ints("12 run by relation", (b, r) -> b.run(5, 0, r, false), 2, 3, 0, 0, 0, 2);
        ints("12 run back by relation", (b, r) -> b.run(5, 0, r, true), 4, 3, 0, 0, 3, 0);
        ints("13 count by relation", (b, r) -> b.count(5, 0, r, false), 2, 3, 3, 4, 1, 5);
        ints("13 count, not, by relation", (b, r) -> b.count(5, 0, r, true), 4, 3, 3, 2, 5, 1);
        ints("14 holds by relation", (b, r) -> b.holds(1, 2, 0, r), true, true, false, false, false, true);
        ints("15 pick by relation", (b, r) -> b.pick(1, 2, 0, r), 1, 1, 2, 2, -1, 1);
        // With nothing to compare, or OUT to compare with, a wrong relation is still a wrong one.
        ints("12 run of an empty strip by relation", (b, r) -> runOfNothing(b, r), 0, 0, 0, 0, 0, 0);
        ints("13 count of an empty strip by relation", (b, r) -> countOfNothing(b, r), 0, 0, 0, 0, 0, 0);
        ints("14 holds between empty strips by relation", (b, r) -> holdsOfNothing(b, r),
            false, false, false, false, false, true);
        ints("15 pick between empty strips by relation", (b, r) -> pickOfNothing(b, r), -1, -1, -1, -1, -1, 0);
    }

    private static int runOfNothing(HarbourBoard b, int relation) {
        b.clear(0);
        return b.run(0, 0, relation, false);
    }

    private static int countOfNothing(HarbourBoard b, int relation) {
        b.clear(0);
        return b.count(0, 0, relation, false);
    }

    private static boolean holdsOfNothing(HarbourBoard b, int relation) {
        b.clear(0);
        b.clear(1);
        return b.holds(0, 1, 0, relation);
    }

    private static int pickOfNothing(HarbourBoard b, int relation) {
        b.clear(0);
        b.clear(1);
        return b.pick(0, 1, 0, relation);
    }

    private static void placesInTheOrder() {
        ints("17 order at", (b, k) -> b.order(k), 5, 4, 3, 2, 1, 0);
    }

    /** The call is allowed with every level up to the ends of -1000 .. 1000, and refused with the next ones. */
    private static void levelsOf(String name, LevelCall call, Object due) {
        for (double v : new double[] {
            -1000, Math.nextUp(-1000.0), -200.5, -Double.MIN_VALUE, -0.0, 0.0, Double.MIN_VALUE, 201, Math.nextDown(1000.0), 1000,
        }) {
            HarbourBoard b = stairs();
            Due.is(name + " " + v, () -> call.on(b, v), due);
        }
        HarbourBoard b = stairs();
        for (double v : new double[] {
            Math.nextDown(-1000.0), Math.nextUp(1000.0), -1000.5, 1000.5, -1001, 1001, -Double.MAX_VALUE, Double.MAX_VALUE,
            Double.NEGATIVE_INFINITY, Double.POSITIVE_INFINITY, Double.NaN,
        }) {
            Due.is(name + " " + v, () -> call.on(b, v), Due.ARGUMENT);
        }
    }

    private static void levels() {
        levelsOf("2 level", (b, v) -> b.level(5, v), 7);
        levelsOf("6 LOW, SET before,", (b, v) -> b.mark(0, 0, v), true);
        levelsOf("6 LOW, not SET before,", (b, v) -> b.mark(1, 0, v), false);
        levelsOf("6 HIGH", (b, v) -> b.mark(0, 1, v), false);
        levelsOf("9 probe", (b, v) -> b.probe(v), 0);
    }

    /** The call is allowed with every wind up to the ends of 0 .. 200, and refused with the next ones. */
    private static void windsOf(String name, WindCall call, Object due) {
        for (float v : new float[] {-0f, 0f, Float.MIN_VALUE, 100, Math.nextDown(200f), 200}) {
            HarbourBoard b = stairs();
            Due.is(name + " " + v, () -> call.on(b, v), due);
        }
        HarbourBoard b = stairs();
        for (float v : new float[] {
            -Float.MIN_VALUE, Math.nextUp(200f), -0.5f, 200.5f, -1, 201, 1000, -1000, -Float.MAX_VALUE, Float.MAX_VALUE,
            Float.NEGATIVE_INFINITY, Float.POSITIVE_INFINITY, Float.NaN,
        }) {
            Due.is(name + " " + v, () -> call.on(b, v), Due.ARGUMENT);
        }
    }

    private static void winds() {
        windsOf("3 wind", (b, v) -> b.wind(5, v), 8);
        windsOf("7 gale, SET before,", (b, v) -> b.gale(1, v), true);
        windsOf("7 gale, not SET before,", (b, v) -> b.gale(0, v), false);
        windsOf("10 probeWind", (b, v) -> b.probeWind(v), 0);
    }

    private static void theConstant() {
        Due.is("NONE", () -> HarbourBoard.NONE, -1);
        Due.is("15 neither holds it: NONE", () -> stairs().pick(3, 3, 0, 0), HarbourBoard.NONE);
    }
}
