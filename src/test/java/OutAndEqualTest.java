/** Where numbers meet: equal ones, the nearest unlike ones, the ends, and what is OUT; in each call that compares. */
public final class OutAndEqualTest {
    private static final boolean[] LESS = {true, true, false, false, false, true};
    private static final boolean[] GREATER = {false, false, true, true, false, true};
    private static final boolean[] EQUAL = {false, true, false, true, true, false};
    private static final boolean[] WITH_OUT = {false, false, false, false, false, true};

    public static void main(String[] args) {
        levelsCompare();
        windsCompare();
        oneAndItself();
        outAtFirst();
        marksSetAndLifted();
        probesOfLevels();
        probesOfWinds();
        theProbeThatIsOut();
        runStopsAtOut();
        standByLowAndHigh();
        standTheFirstThatIsSo();
        standByGale();
        marksAreTheVeryNumbers();
        standAddsUp();
        orderOfEqualAndOut();
        highestAndCalmest();
        sameOfEqualAndOut();
        Due.finish();
    }

    private static void levelOrOut(HarbourBoard b, int g, Double v) {
        if (v == null) {
            b.out(g, 0);
        } else {
            b.level(g, v);
        }
    }

    private static void windOrOut(HarbourBoard b, int g, Float v) {
        if (v == null) {
            b.out(g, 1);
        } else {
            b.wind(g, v);
        }
    }

    /** All that is asked of two readings by the six relations: each to the other as latest, and to a probe. */
    private static void relate(String name, HarbourBoard b, int what, boolean[] due, boolean[] dueBack) {
        for (int relation = 0; relation < 6; relation++) {
            int r = relation;
            String by = name + " by " + r;
            int picked = due[r] ? 2 : dueBack[r] ? 3 : -1;
            Due.is("14 " + by, () -> b.holds(2, 3, what, r), due[r]);
            Due.is("14 the other way, " + by, () -> b.holds(3, 2, what, r), dueBack[r]);
            Due.is("15 " + by, () -> b.pick(2, 3, what, r), picked);
            Due.is("12 " + by, () -> b.run(2, what, r, false), due[r] ? 1 : 0);
            Due.is("12 back, " + by, () -> b.run(2, what, r, true), due[r] ? 0 : 1);
            Due.is("13 " + by, () -> b.count(2, what, r, false), due[r] ? 1 : 0);
            Due.is("13 not, " + by, () -> b.count(2, what, r, true), due[r] ? 0 : 1);
        }
    }

    private static void levels(Double x, Double y, boolean[] due, boolean[] dueBack) {
        HarbourBoard b = new HarbourBoard();
        levelOrOut(b, 2, x);
        levelOrOut(b, 3, y);
        if (y != null) {
            b.probe(y);
        }
        relate("level " + x + " to " + y, b, 0, due, dueBack);
    }

    private static void winds(Float x, Float y, boolean[] due, boolean[] dueBack) {
        HarbourBoard b = new HarbourBoard();
        windOrOut(b, 2, x);
        windOrOut(b, 3, y);
        if (y != null) {
            b.probeWind(y);
        }
        relate("wind " + x + " to " + y, b, 1, due, dueBack);
    }

    private static void levelsCompare() {
        double[][] rising = {
            {-1000, Math.nextUp(-1000.0)}, {-1000, 1000}, {-1, 0}, {-Double.MIN_VALUE, -0.0}, {0, Double.MIN_VALUE},
            {0.1, Math.nextUp(0.1)}, {0.1, 0.1f}, {8, 16}, {Math.nextDown(1000.0), 1000},
        };
        for (double[] two : rising) {
            levels(two[0], two[1], LESS, GREATER);
            levels(two[1], two[0], GREATER, LESS);
        }
        for (double v : new double[] {-1000, -8.5, 0.0, -0.0, Double.MIN_VALUE, 0.1, 200.5, 1000}) {
            levels(v, v, EQUAL, EQUAL);
            levels(v, null, WITH_OUT, WITH_OUT);
            levels(null, v, WITH_OUT, WITH_OUT);
        }
        levels(0.0, -0.0, EQUAL, EQUAL);
        levels(-0.0, 0.0, EQUAL, EQUAL);
        levels(null, null, WITH_OUT, WITH_OUT);
    }

    private static void windsCompare() {
        float[][] rising = {
            {0, Float.MIN_VALUE}, {-0f, Float.MIN_VALUE}, {0, 200}, {0.1f, Math.nextUp(0.1f)}, {8, 16},
            {Math.nextDown(200f), 200},
        };
        for (float[] two : rising) {
            winds(two[0], two[1], LESS, GREATER);
            winds(two[1], two[0], GREATER, LESS);
        }
        for (float v : new float[] {0f, -0f, Float.MIN_VALUE, 0.1f, 7.5f, 200}) {
            winds(v, v, EQUAL, EQUAL);
            winds(v, null, WITH_OUT, WITH_OUT);
            winds(null, v, WITH_OUT, WITH_OUT);
        }
        winds(0f, -0f, EQUAL, EQUAL);
        winds(null, null, WITH_OUT, WITH_OUT);
    }

    private static void oneAndItself() {
        HarbourBoard b = new HarbourBoard();
        for (int i = 0; i < 6; i++) {
            int g = i;
            b.level(g, 10 + g);
            b.wind(g, 20 + g);
            for (int relation = 0; relation < 6; relation++) {
                int r = relation;
                Due.is("14 a level and itself by " + r, () -> b.holds(g, g, 0, r), EQUAL[r]);
                Due.is("14 a wind and itself by " + r, () -> b.holds(g, g, 1, r), EQUAL[r]);
                Due.is("15 a level and itself by " + r, () -> b.pick(g, g, 0, r), EQUAL[r] ? g : -1);
                Due.is("15 a wind and itself by " + r, () -> b.pick(g, g, 1, r), EQUAL[r] ? g : -1);
            }
            b.out(g, 0);
            b.out(g, 1);
            for (int relation = 0; relation < 6; relation++) {
                int r = relation;
                Due.is("14 OUT and itself by " + r, () -> b.holds(g, g, 0, r), WITH_OUT[r]);
                Due.is("15 OUT and itself by " + r, () -> b.pick(g, g, 1, r), WITH_OUT[r] ? g : -1);
            }
        }
    }

    private static void outAtFirst() {
        for (int i = 0; i < 6; i++) {
            int g = i;
            for (int k = 0; k < 3; k++) {
                int mark = k;
                Due.is("1 mark " + k + " is not SET", () -> new HarbourBoard().lift(g, mark), false);
            }
            Due.is("1 LOW is not SET", () -> new HarbourBoard().mark(g, 0, 0), false);
            Due.is("1 HIGH is not SET", () -> new HarbourBoard().mark(g, 1, 0), false);
            Due.is("1 GALE is not SET", () -> new HarbourBoard().gale(g, 0), false);
        }
        HarbourBoard b = new HarbourBoard();
        b.level(0, 0);
        b.wind(0, 0);
        for (int w = 0; w < 2; w++) {
            int what = w;
            Due.is("1 the probe is not 0: equal", () -> b.count(0, what, 4, false), 0);
            Due.is("1 the probe is not 0: at most", () -> b.run(0, what, 1, false), 0);
            Due.is("1 the probe is OUT: unlike", () -> b.run(0, what, 5, false), 1);
        }
        Due.is("1 no mark is 0", () -> b.stand(0), 5);
        Due.is("1 the gate is shut", () -> b.move(false), Due.STATE);
        b.level(1, -1);
        Due.is("1 it has not moved before", () -> b.move(true), 1);
    }

    private static void marksSetAndLifted() {
        HarbourBoard b = new HarbourBoard();
        for (int k = 0; k < 2; k++) {
            int mark = k;
            Due.is("6 not SET before", () -> b.mark(3, mark, 0), false);
            Due.is("6 SET before, at 0", () -> b.mark(3, mark, 0), true);
            Due.is("8 was SET", () -> b.lift(3, mark), true);
            Due.is("8 was not SET any more", () -> b.lift(3, mark), false);
            Due.is("6 lifted before", () -> b.mark(3, mark, 0), false);
        }
        Due.is("7 not SET before", () -> b.gale(3, 0), false);
        Due.is("7 SET before, at 0", () -> b.gale(3, 0), true);
        Due.is("8 GALE was SET", () -> b.lift(3, 2), true);
        Due.is("8 GALE was not SET any more", () -> b.lift(3, 2), false);
        Due.is("7 lifted before", () -> b.gale(3, 0), false);
        Due.is("5 clear leaves marks", () -> b.clear(3), 0);
        for (int k = 0; k < 3; k++) {
            int mark = k;
            Due.is("8 another gauge's is its own", () -> b.lift(2, mark), false);
            Due.is("8 each mark by itself", () -> b.lift(3, mark), true);
        }
    }

    private static void probesOfLevels() {
        HarbourBoard b = new HarbourBoard();
        Due.is("9 none has come: 0 is no level of theirs", () -> b.probe(0), 0);
        for (int g = 0; g < 6; g++) {
            int due = g + 1;
            b.level(g, 1000);
            Due.is("9 how many", () -> b.probe(1000), due);
        }
        Due.is("9 the nearest to it is not equal", () -> b.probe(Math.nextDown(1000.0)), 0);
        b.out(5, 0);
        Due.is("9 OUT is not equal", () -> b.probe(1000), 5);
        b.level(4, -1000);
        Due.is("9 the latest alone counts", () -> b.probe(1000), 4);
        Due.is("9 the least level", () -> b.probe(-1000), 1);
        b.level(0, -0.0);
        Due.is("9 minus nought is equal to nought", () -> b.probe(0.0), 1);
    }

    private static void probesOfWinds() {
        HarbourBoard b = new HarbourBoard();
        Due.is("10 none has come: 0 is no wind of theirs", () -> b.probeWind(0), 0);
        for (int g = 0; g < 6; g++) {
            int due = g + 1;
            b.wind(g, 200);
            Due.is("10 how many", () -> b.probeWind(200), due);
        }
        Due.is("10 the nearest to it is not equal", () -> b.probeWind(Math.nextDown(200f)), 0);
        b.out(5, 1);
        Due.is("10 OUT is not equal", () -> b.probeWind(200), 5);
        b.wind(4, 0);
        Due.is("10 the latest alone counts", () -> b.probeWind(200), 4);
        Due.is("10 the least wind", () -> b.probeWind(0), 1);
        Due.is("10 minus nought is equal to nought", () -> b.probeWind(-0f), 1);
    }

    private static void theProbeThatIsOut() {
        HarbourBoard b = new HarbourBoard();
        Due.is("11 empty strips are unlike OUT", () -> b.probeOut(0), 6);
        for (int g = 0; g < 6; g++) {
            b.level(g, g);
            b.out(g, 1);
        }
        Due.is("11 numbers are unlike OUT", () -> b.probeOut(0), 6);
        Due.is("11 OUT is unlike OUT", () -> b.probeOut(1), 6);
        b.probe(3);
        b.wind(3, 3);
        b.probeWind(3);
        Due.is("11 OUT once more", () -> b.probeOut(0), 6);
        Due.is("11 no level is equal to it then", () -> b.count(3, 0, 4, false), 0);
        Due.is("11 the probe of winds is a number still", () -> b.count(3, 1, 4, false), 1);
        b.probe(3);
        Due.is("9 a number again behind OUT", () -> b.count(3, 0, 4, false), 1);
        Due.is("11 the probe of winds is OUT", () -> b.probeOut(1), 6);
        Due.is("11 no wind is equal to it then", () -> b.count(3, 1, 4, false), 0);
        Due.is("11 the probe of levels is a number still", () -> b.count(3, 0, 4, false), 1);
    }

    private static void runStopsAtOut() {
        HarbourBoard b = new HarbourBoard();
        b.level(0, 1);
        b.out(0, 0);
        b.level(0, 1);
        b.probe(1);
        Due.is("12 OUT ends a run of equal ones", () -> b.run(0, 0, 4, false), 1);
        Due.is("12 OUT does not hold at least", () -> b.run(0, 0, 3, false), 1);
        Due.is("12 back, the latest is not unlike, OUT is", () -> b.run(0, 0, 5, true), 1);
        Due.is("12 back, OUT is not below either", () -> b.run(0, 0, 0, true), 3);
        Due.is("12 back, OUT is not above either", () -> b.run(0, 0, 2, true), 3);
        Due.is("12 back, the latest is equal", () -> b.run(0, 0, 4, true), 0);
        Due.is("13 OUT is unlike", () -> b.count(0, 0, 5, false), 1);
        Due.is("13 OUT is not equal", () -> b.count(0, 0, 4, true), 1);
        b.out(1, 0);
        b.level(1, 1);
        Due.is("12 OUT, the oldest, is unlike", () -> b.run(1, 0, 5, false), 1);
        Due.is("12 OUT, the oldest, is not equal", () -> b.run(1, 0, 4, false), 0);
        b.out(1, 0);
        Due.is("12 OUT, the latest, holds unlike: none, back", () -> b.run(1, 0, 5, true), 0);
        Due.is("12 OUT, the latest, is not equal: one, back", () -> b.run(1, 0, 4, true), 1);
    }

    /** How a gauge stands with this level between these marks; null is OUT. */
    private static int stand(Double level, Double low, Double high) {
        HarbourBoard b = new HarbourBoard();
        levelOrOut(b, 1, level);
        if (low != null) {
            b.mark(1, 0, low);
        }
        if (high != null) {
            b.mark(1, 1, high);
        }
        return b.stand(1);
    }

    private static void standByLowAndHigh() {
        Due.is("16 below LOW, as near as can be", () -> stand(Math.nextDown(5.0), 5.0, 9.0), 2);
        Due.is("16 equal to LOW", () -> stand(5.0, 5.0, 9.0), 4);
        Due.is("16 above LOW, as near as can be", () -> stand(Math.nextUp(5.0), 5.0, 9.0), 6);
        Due.is("16 below HIGH, as near as can be", () -> stand(Math.nextDown(9.0), 5.0, 9.0), 6);
        Due.is("16 equal to HIGH", () -> stand(9.0, 5.0, 9.0), 4);
        Due.is("16 above HIGH, as near as can be", () -> stand(Math.nextUp(9.0), 5.0, 9.0), 3);
        Due.is("16 below LOW, HIGH is not SET", () -> stand(4.0, 5.0, null), 2);
        Due.is("16 equal to LOW, HIGH is not SET", () -> stand(5.0, 5.0, null), 4);
        Due.is("16 above LOW, HIGH is not SET", () -> stand(6.0, 5.0, null), 6);
        Due.is("16 below HIGH, LOW is not SET", () -> stand(8.0, null, 9.0), 6);
        Due.is("16 equal to HIGH, LOW is not SET", () -> stand(9.0, null, 9.0), 4);
        Due.is("16 above HIGH, LOW is not SET", () -> stand(10.0, null, 9.0), 3);
        Due.is("16 neither is SET", () -> stand(5.0, null, null), 5);
        Due.is("16 neither is SET, and the level is 0", () -> stand(0.0, null, null), 5);
        Due.is("16 0 below HIGH, LOW is not SET", () -> stand(0.0, null, 9.0), 6);
        Due.is("16 0 above LOW, HIGH is not SET", () -> stand(0.0, -9.0, null), 6);
        Due.is("16 minus nought is equal to nought", () -> stand(-0.0, 0.0, 9.0), 4);
        Due.is("16 the least level at the least LOW", () -> stand(-1000.0, -1000.0, 1000.0), 4);
        Due.is("16 the greatest level at the greatest HIGH", () -> stand(1000.0, -1000.0, 1000.0), 4);
    }

    private static void standTheFirstThatIsSo() {
        Due.is("16 OUT, whatever the marks", () -> stand(null, 5.0, 9.0), 1);
        Due.is("16 OUT, and neither mark is SET", () -> stand(null, null, null), 1);
        Due.is("16 below LOW (2) and above HIGH (3)", () -> stand(5.0, 9.0, 1.0), 2);
        Due.is("16 below LOW (2) and equal to HIGH (4)", () -> stand(5.0, 9.0, 5.0), 2);
        Due.is("16 above HIGH (3) and equal to LOW (4)", () -> stand(5.0, 5.0, 1.0), 3);
        Due.is("16 equal to both (4)", () -> stand(5.0, 5.0, 5.0), 4);
        Due.is("16 above LOW and below HIGH, otherwise (6)", () -> stand(5.0, 1.0, 9.0), 6);
        HarbourBoard b = new HarbourBoard();
        b.level(1, 5);
        b.level(1, 50);
        b.mark(1, 0, 10);
        Due.is("16 by the latest, not the oldest", () -> b.stand(1), 6);
        b.out(1, 0);
        Due.is("16 the latest is OUT, though numbers came", () -> b.stand(1), 1);
        b.clear(1);
        Due.is("16 empty (0) comes before OUT (1)", () -> b.stand(1), 0);
    }

    /** How much more a gauge without levels stands with this wind and this GALE; null is OUT. */
    private static int windStand(Float wind, Float gale) {
        HarbourBoard b = new HarbourBoard();
        windOrOut(b, 4, wind);
        if (gale != null) {
            b.gale(4, gale);
        }
        return b.stand(4);
    }

    private static void standByGale() {
        Due.is("16 below GALE, as near as can be", () -> windStand(Math.nextDown(50f), 50f), 10);
        Due.is("16 at GALE", () -> windStand(50f, 50f), 20);
        Due.is("16 above GALE, as near as can be", () -> windStand(Math.nextUp(50f), 50f), 20);
        Due.is("16 no wind is below a GALE of 0", () -> windStand(0f, 0f), 20);
        Due.is("16 minus nought is at a GALE of 0", () -> windStand(-0f, 0f), 20);
        Due.is("16 the greatest wind at the greatest GALE", () -> windStand(200f, 200f), 20);
        Due.is("16 0 below the least GALE that it can be", () -> windStand(0f, Float.MIN_VALUE), 10);
        Due.is("16 the wind is OUT, GALE is SET", () -> windStand(null, 50f), 30);
        Due.is("16 the wind is OUT, GALE is 0", () -> windStand(null, 0f), 30);
        Due.is("16 GALE is not SET", () -> windStand(50f, null), 0);
        Due.is("16 GALE is not SET, and the wind is 0", () -> windStand(0f, null), 0);
        Due.is("16 GALE is not SET, and the wind is OUT", () -> windStand(null, null), 0);
        HarbourBoard b = new HarbourBoard();
        b.wind(4, 60);
        b.wind(4, 40);
        b.gale(4, 50);
        Due.is("16 by the latest wind", () -> b.stand(4), 10);
        b.out(4, 1);
        Due.is("16 the latest wind is OUT, though numbers came", () -> b.stand(4), 30);
        b.lift(4, 2);
        Due.is("16 GALE is lifted", () -> b.stand(4), 0);
    }

    /** A mark is the number that it was set to, not one near it: so its neighbours on either side are no match. */
    private static void marksAreTheVeryNumbers() {
        for (double v : new double[] {-999.9999999999999, -8.5, -0.1, Double.MIN_VALUE, 0.1, 0.3, 7.25, 123.456, 999.5}) {
            Due.is("6 a level at LOW " + v, () -> stand(v, v, null), 4);
            Due.is("6 a level just below LOW " + v, () -> stand(Math.nextDown(v), v, null), 2);
            Due.is("6 a level just above LOW " + v, () -> stand(Math.nextUp(v), v, null), 6);
            Due.is("6 a level at HIGH " + v, () -> stand(v, null, v), 4);
            Due.is("6 a level just below HIGH " + v, () -> stand(Math.nextDown(v), null, v), 6);
            Due.is("6 a level just above HIGH " + v, () -> stand(Math.nextUp(v), null, v), 3);
        }
        for (float v : new float[] {Float.MIN_VALUE, 0.1f, 7.25f, 50.1f, 123.456f, 199.99998f}) {
            Due.is("7 a wind at GALE " + v, () -> windStand(v, v), 20);
            Due.is("7 a wind just below GALE " + v, () -> windStand(Math.nextDown(v), v), 10);
            Due.is("7 a wind just above GALE " + v, () -> windStand(Math.nextUp(v), v), 20);
        }
    }

    private static void standAddsUp() {
        Double[][] levelLowHigh = {
            {null, null, null}, {4.0, 5.0, null}, {10.0, null, 9.0}, {5.0, 5.0, 9.0}, {5.0, null, null}, {7.0, 5.0, 9.0},
        };
        Float[] winds = {null, 49f, 50f, null};
        for (int first = 0; first <= 6; first++) {
            for (int more = 0; more <= 3; more++) {
                HarbourBoard b = new HarbourBoard();
                if (first > 0) {
                    Double[] levels = levelLowHigh[first - 1];
                    levelOrOut(b, 0, levels[0]);
                    markIfThere(b, 0, levels[1]);
                    markIfThere(b, 1, levels[2]);
                }
                windOrOut(b, 0, winds[more]);
                if (more > 0) {
                    b.gale(0, 50);
                }
                Due.is("16 stands at " + first + " and 10 times " + more, () -> b.stand(0), first + 10 * more);
            }
        }
    }

    private static void markIfThere(HarbourBoard b, int mark, Double v) {
        if (v != null) {
            b.mark(0, mark, v);
        }
    }

    private static void order(String name, Double[] levels, int... due) {
        HarbourBoard b = new HarbourBoard();
        for (int g = 0; g < 6; g++) {
            levelOrOut(b, g, levels[g]);
        }
        for (int k = 0; k < 6; k++) {
            int place = k;
            Due.is("17 " + name + ", place " + k, () -> b.order(place), due[k]);
        }
    }

    private static void orderOfEqualAndOut() {
        order("all equal", new Double[] {7.0, 7.0, 7.0, 7.0, 7.0, 7.0}, 0, 1, 2, 3, 4, 5);
        order("all OUT", new Double[] {null, null, null, null, null, null}, 0, 1, 2, 3, 4, 5);
        order("rising", new Double[] {1.0, 2.0, 3.0, 4.0, 5.0, 6.0}, 5, 4, 3, 2, 1, 0);
        order("falling", new Double[] {6.0, 5.0, 4.0, 3.0, 2.0, 1.0}, 0, 1, 2, 3, 4, 5);
        order("OUT behind the least level", new Double[] {null, -1000.0, null, -1000.0, null, 1000.0}, 5, 1, 3, 0, 2, 4);
        order("OUT is not as 0", new Double[] {null, -1.0, null, 1.0, 0.0, null}, 3, 4, 1, 0, 2, 5);
        order("minus nought and nought are equal", new Double[] {-0.0, 0.0, -0.0, 0.0, 1.0, -1.0}, 4, 0, 1, 2, 3, 5);
        order("the nearest ones are not equal",
            new Double[] {5.0, Math.nextUp(5.0), Math.nextDown(5.0), 5.0, Math.nextUp(5.0), null}, 1, 4, 0, 3, 2, 5);
        orderOfEmptyAndOut();
        HarbourBoard b = new HarbourBoard();
        b.level(0, 9);
        b.level(0, 1);
        b.level(1, 8);
        b.out(1, 0);
        b.level(2, 3);
        b.wind(3, 100);
        Due.is("17 by the latest: first", () -> b.order(0), 2);
        Due.is("17 by the latest: second", () -> b.order(1), 0);
        Due.is("17 the latest is OUT, though numbers came", () -> b.order(2), 1);
        Due.is("17 winds do not count", () -> b.order(3), 3);
    }

    /** The latest of an empty strip is OUT as any other: each mixture of the two leaves the gauges as they are numbered. */
    private static void orderOfEmptyAndOut() {
        for (int mixture = 0; mixture < 64; mixture++) {
            HarbourBoard b = new HarbourBoard();
            for (int g = 0; g < 6; g++) {
                if ((mixture >> g & 1) == 1) {
                    b.out(g, 0);
                }
            }
            for (int k = 0; k < 6; k++) {
                int place = k;
                Due.is("17 empty strips and OUT, mixture " + mixture + ", place " + k, () -> b.order(place), k);
            }
        }
    }

    private static void highestAndCalmest() {
        HarbourBoard b = new HarbourBoard();
        b.out(0, 0);
        Due.is("18 OUT alone is no number", () -> b.highest(0), Due.NO_ELEMENT);
        b.level(0, -1000);
        Due.is("18 the least level is a number, behind OUT", () -> b.highest(0), -1000.0);
        b.out(0, 0);
        Due.is("18 OUT behind it is no greater", () -> b.highest(0), -1000.0);
        b.level(0, Math.nextUp(-1000.0));
        Due.is("18 the nearest greater one", () -> b.highest(0), Math.nextUp(-1000.0));
        b.level(0, 1000);
        b.level(0, 999);
        Due.is("18 the greatest level, not the latest", () -> b.highest(0), 1000.0);
        b.out(1, 1);
        Due.is("19 OUT alone is no number", () -> b.calmest(1), Due.NO_ELEMENT);
        b.wind(1, 200);
        Due.is("19 the greatest wind is a number, behind OUT", () -> b.calmest(1), 200f);
        b.out(1, 1);
        Due.is("19 OUT behind it is no lesser", () -> b.calmest(1), 200f);
        b.wind(1, Math.nextDown(200f));
        Due.is("19 the nearest lesser one", () -> b.calmest(1), Math.nextDown(200f));
        b.wind(1, Float.MIN_VALUE);
        b.wind(1, 5);
        Due.is("19 the least wind, not the latest", () -> b.calmest(1), Float.MIN_VALUE);
        b.wind(1, 0);
        Due.is("19 a wind of 0", () -> b.calmest(1), 0f);
        b.out(2, 1);
        b.wind(2, 5);
        b.out(3, 0);
        b.level(3, 5);
        Due.is("18 winds are no levels", () -> b.highest(2), Due.NO_ELEMENT);
        Due.is("19 levels are no winds", () -> b.calmest(3), Due.NO_ELEMENT);
    }

    private static int same(Double[] ofG, Double... ofH) {
        HarbourBoard b = new HarbourBoard();
        for (Double v : ofG) {
            levelOrOut(b, 4, v);
        }
        for (Double v : ofH) {
            levelOrOut(b, 1, v);
        }
        b.wind(4, 1);
        return b.same(4, 1);
    }

    private static void sameOfEqualAndOut() {
        Double[] one = {0.0};
        Double[] out = {null};
        Double[] outAndOne = {null, 1.0};
        Due.is("20 minus nought is equal to nought", () -> same(one, -0.0), 2);
        Due.is("20 the nearest one is not equal", () -> same(one, Double.MIN_VALUE), 0);
        Due.is("20 nought and OUT", () -> same(one, (Double) null), 0);
        Due.is("20 OUT and nought", () -> same(out, 0.0), 0);
        Due.is("20 OUT and OUT", () -> same(out, (Double) null), 1);
        Due.is("20 one OUT and two", () -> same(out, null, null), 0);
        Due.is("20 OUT and a number, likewise", () -> same(outAndOne, null, 1.0), 1);
        Due.is("20 OUT at another place", () -> same(outAndOne, 1.0, null), 0);
        Due.is("20 OUT, then another number", () -> same(outAndOne, null, 2.0), 0);
        Due.is("20 the first alone", () -> same(outAndOne, (Double) null), 0);
        HarbourBoard b = new HarbourBoard();
        b.level(0, 3);
        Due.is("20 one and itself", () -> b.same(0, 0), 2);
        b.out(0, 0);
        Due.is("20 one and itself, with OUT", () -> b.same(0, 0), 1);
        b.clear(0);
        Due.is("20 one and itself, empty", () -> b.same(0, 0), 2);
        b.out(0, 1);
        b.wind(1, 3);
        Due.is("20 winds do not count", () -> b.same(0, 1), 2);
    }
}
