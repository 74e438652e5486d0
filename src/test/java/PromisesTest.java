/** The promises of the document one by one: ordinary inputs, the edges that it names, wrong inputs. */
public final class PromisesTest {
    private static final int[] NO_GAUGES = {-1, 6, Integer.MIN_VALUE, Integer.MAX_VALUE};
    private static final int[] NO_WHATS = {-1, 2, Integer.MIN_VALUE, Integer.MAX_VALUE};
    private static final int[] NO_RELATIONS = {-1, 6, Integer.MIN_VALUE, Integer.MAX_VALUE};
    private static final double[] NO_LEVELS = {
        Math.nextUp(1000.0), Math.nextDown(-1000.0), Double.NaN,
        Double.POSITIVE_INFINITY, Double.NEGATIVE_INFINITY, Double.MAX_VALUE, -Double.MAX_VALUE,
    };
    private static final float[] NO_WINDS = {
        Math.nextUp(200f), -Float.MIN_VALUE, Float.NaN,
        Float.POSITIVE_INFINITY, Float.NEGATIVE_INFINITY, Float.MAX_VALUE, -1f,
    };

    public static void main(String[] args) {
        promise1NewObject();
        promise2Level();
        promise3Wind();
        promise4Out();
        promise5Clear();
        promise6Mark();
        promise7Gale();
        promise8Lift();
        promise9Probe();
        promise10ProbeWind();
        promise11ProbeOut();
        promise12Run();
        promise13Count();
        promise14Holds();
        promise15Pick();
        promise16StandOfLevels();
        promise16StandOfWinds();
        promise17Order();
        promise18Highest();
        promise19Calmest();
        promise20Same();
        promise21MoveToOpen();
        promise21MoveToShut();
        promise22Size();
        Due.finish();
    }

    /** A board whose gauge g has these levels; null is OUT. */
    private static HarbourBoard withLevels(int g, Double... levels) {
        HarbourBoard b = new HarbourBoard();
        addLevels(b, g, levels);
        return b;
    }

    private static void addLevels(HarbourBoard b, int g, Double... levels) {
        for (Double v : levels) {
            if (v == null) {
                b.out(g, 0);
            } else {
                b.level(g, v);
            }
        }
    }

    private static void addWinds(HarbourBoard b, int g, Float... winds) {
        for (Float v : winds) {
            if (v == null) {
                b.out(g, 1);
            } else {
                b.wind(g, v);
            }
        }
    }

    private static void promise1NewObject() {
        HarbourBoard b = new HarbourBoard();
        for (int i = 0; i < 6; i++) {
            int g = i;
            Due.is("1 size of levels", () -> b.size(g, 0), 0);
            Due.is("1 size of winds", () -> b.size(g, 1), 0);
            Due.is("1 stand", () -> b.stand(g), 0);
            for (int mark = 0; mark < 3; mark++) {
                int k = mark;
                Due.is("1 lift", () -> b.lift(g, k), false);
            }
            Due.is("1 order", () -> b.order(g), g);
        }
        b.level(0, 5);
        b.wind(0, 5);
        for (int what = 0; what < 2; what++) {
            int w = what;
            Due.is("1 the probe is OUT: equal", () -> b.count(0, w, 4, false), 0);
            Due.is("1 the probe is OUT: unlike", () -> b.count(0, w, 5, false), 1);
        }
        Due.is("1 the gate is shut", () -> new HarbourBoard().move(false), Due.STATE);
        Due.is("1 another object stays as it was", () -> new HarbourBoard().size(0, 0), 0);
    }

    private static void promise2Level() {
        HarbourBoard b = new HarbourBoard();
        Due.is("2 level", () -> b.level(0, 1.5), 1);
        Due.is("2 level of another gauge", () -> b.level(5, -1000), 1);
        Due.is("2 the greatest level", () -> b.level(0, 1000), 2);
        Due.is("2 the latest is the last", () -> b.holds(0, 5, 0, 2), true);
        Due.is("2 minus nought", () -> b.level(0, -0.0), 3);
        Due.is("2 winds stay as they were", () -> b.size(0, 1), 0);
        for (int g : NO_GAUGES) {
            Due.is("2 level of gauge " + g, () -> b.level(g, 0), Due.ARGUMENT);
        }
        for (double v : NO_LEVELS) {
            Due.is("2 level " + v, () -> b.level(0, v), Due.ARGUMENT);
        }
        Due.is("2 nothing changed", () -> b.size(0, 0), 3);
        for (int n = 4; n <= 12; n++) {
            Due.is("2 level", () -> b.level(0, 7), n);
        }
        Due.is("2 full", () -> b.level(0, 8), Due.STATE);
        Due.is("2 full, and a wrong level", () -> b.level(0, 1001), Due.ARGUMENT);
        Due.is("2 full, and a wrong gauge", () -> b.level(6, 8), Due.ARGUMENT);
        Due.is("2 still 12", () -> b.size(0, 0), 12);
        Due.is("2 the latest is the twelfth", () -> b.probe(7), 1);
        Due.is("2 full levels leave room for winds", () -> b.wind(0, 1), 1);
    }

    private static void promise3Wind() {
        HarbourBoard b = new HarbourBoard();
        Due.is("3 wind", () -> b.wind(0, 1.5f), 1);
        Due.is("3 the least wind", () -> b.wind(5, 0f), 1);
        Due.is("3 the greatest wind", () -> b.wind(0, 200f), 2);
        Due.is("3 the latest is the last", () -> b.probeWind(200f), 1);
        Due.is("3 minus nought is nought", () -> b.wind(0, -0f), 3);
        Due.is("3 levels stay as they were", () -> b.size(0, 0), 0);
        for (int g : NO_GAUGES) {
            Due.is("3 wind of gauge " + g, () -> b.wind(g, 0), Due.ARGUMENT);
        }
        for (float v : NO_WINDS) {
            Due.is("3 wind " + v, () -> b.wind(0, v), Due.ARGUMENT);
        }
        Due.is("3 nothing changed", () -> b.size(0, 1), 3);
        for (int n = 4; n <= 12; n++) {
            Due.is("3 wind", () -> b.wind(0, 7), n);
        }
        Due.is("3 full", () -> b.wind(0, 8), Due.STATE);
        Due.is("3 full, and a wrong wind", () -> b.wind(0, -1), Due.ARGUMENT);
        Due.is("3 still 12", () -> b.size(0, 1), 12);
        Due.is("3 full winds leave room for levels", () -> b.level(0, 1), 1);
    }

    private static void promise4Out() {
        HarbourBoard b = new HarbourBoard();
        b.level(2, 4);
        Due.is("4 out of levels", () -> b.out(2, 0), 2);
        Due.is("4 the latest level is OUT", () -> b.stand(2), 1);
        Due.is("4 out of winds", () -> b.out(2, 1), 1);
        for (int g : NO_GAUGES) {
            Due.is("4 out of gauge " + g, () -> b.out(g, 0), Due.ARGUMENT);
        }
        for (int what : NO_WHATS) {
            Due.is("4 out of what " + what, () -> b.out(2, what), Due.ARGUMENT);
        }
        for (int n = 2; n <= 12; n++) {
            Due.is("4 out", () -> b.out(2, 1), n);
        }
        Due.is("4 full", () -> b.out(2, 1), Due.STATE);
        Due.is("4 OUT takes room as a number does", () -> b.wind(2, 1), Due.STATE);
        Due.is("4 full, and a wrong what", () -> b.out(2, 2), Due.ARGUMENT);
        Due.is("4 the other strip has room", () -> b.out(2, 0), 3);
    }

    private static void promise5Clear() {
        HarbourBoard b = withLevels(3, 1.0, null, 2.0);
        addWinds(b, 3, 1f, null);
        b.mark(3, 0, 1);
        b.level(4, 1);
        Due.is("5 clear", () -> b.clear(3), 5);
        Due.is("5 no levels", () -> b.size(3, 0), 0);
        Due.is("5 no winds", () -> b.size(3, 1), 0);
        Due.is("5 clear again", () -> b.clear(3), 0);
        Due.is("5 another gauge keeps its own", () -> b.size(4, 0), 1);
        Due.is("5 the mark is still SET", () -> b.lift(3, 0), true);
        Due.is("5 the latest is OUT then", () -> b.holds(3, 3, 0, 4), false);
        Due.is("5 no number is left", () -> b.highest(3), Due.NO_ELEMENT);
        Due.is("5 the strip starts anew", () -> b.level(3, 9), 1);
        for (int g : NO_GAUGES) {
            Due.is("5 clear of gauge " + g, () -> b.clear(g), Due.ARGUMENT);
        }
        for (int i = 0; i < 12; i++) {
            b.out(0, 0);
            b.out(0, 1);
        }
        Due.is("5 clear of full strips", () -> b.clear(0), 24);
    }

    private static void promise6Mark() {
        HarbourBoard b = withLevels(1, 5.0);
        Due.is("6 LOW", () -> b.mark(1, 0, 6), false);
        Due.is("6 HIGH is another", () -> b.mark(1, 1, 1000), false);
        Due.is("6 the level is below LOW", () -> b.stand(1), 2);
        Due.is("6 LOW again", () -> b.mark(1, 0, -1000), true);
        Due.is("6 LOW is the new one", () -> b.stand(1), 6);
        Due.is("6 another gauge's LOW", () -> b.mark(2, 0, 0), false);
        for (int g : NO_GAUGES) {
            Due.is("6 mark of gauge " + g, () -> b.mark(g, 0, 0), Due.ARGUMENT);
        }
        for (int mark : new int[] {-1, 2, 3, Integer.MIN_VALUE, Integer.MAX_VALUE}) {
            Due.is("6 mark " + mark, () -> b.mark(1, mark, 0), Due.ARGUMENT);
        }
        for (double v : NO_LEVELS) {
            Due.is("6 mark at " + v, () -> b.mark(3, 0, v), Due.ARGUMENT);
        }
        Due.is("6 GALE was not SET by mark 2", () -> b.lift(1, 2), false);
        Due.is("6 a wrong level sets nothing", () -> b.lift(3, 0), false);
    }

    private static void promise7Gale() {
        HarbourBoard b = new HarbourBoard();
        b.wind(1, 5);
        Due.is("7 GALE", () -> b.gale(1, 200f), false);
        Due.is("7 the wind is below it", () -> b.stand(1), 10);
        Due.is("7 GALE again", () -> b.gale(1, 0f), true);
        Due.is("7 GALE is the new one", () -> b.stand(1), 20);
        Due.is("7 LOW is not SET by it", () -> b.lift(1, 0), false);
        Due.is("7 another gauge's GALE", () -> b.gale(2, -0f), false);
        for (int g : NO_GAUGES) {
            Due.is("7 gale of gauge " + g, () -> b.gale(g, 0), Due.ARGUMENT);
        }
        for (float v : NO_WINDS) {
            Due.is("7 gale at " + v, () -> b.gale(3, v), Due.ARGUMENT);
        }
        Due.is("7 a wrong wind sets nothing", () -> b.lift(3, 2), false);
    }

    private static void promise8Lift() {
        HarbourBoard b = withLevels(0, 5.0);
        b.mark(0, 0, 6);
        b.mark(0, 1, 4);
        b.gale(0, 3);
        Due.is("8 lift LOW", () -> b.lift(0, 0), true);
        Due.is("8 LOW compares with nothing", () -> b.stand(0), 33);
        Due.is("8 lift LOW again", () -> b.lift(0, 0), false);
        Due.is("8 lift HIGH", () -> b.lift(0, 1), true);
        Due.is("8 neither is SET", () -> b.stand(0), 35);
        Due.is("8 lift GALE", () -> b.lift(0, 2), true);
        Due.is("8 GALE is not SET", () -> b.stand(0), 5);
        Due.is("8 set anew", () -> b.mark(0, 0, 1), false);
        for (int g : NO_GAUGES) {
            Due.is("8 lift of gauge " + g, () -> b.lift(g, 0), Due.ARGUMENT);
        }
        for (int mark : new int[] {-1, 3, Integer.MIN_VALUE, Integer.MAX_VALUE}) {
            Due.is("8 lift " + mark, () -> b.lift(0, mark), Due.ARGUMENT);
        }
        Due.is("8 nothing changed", () -> b.lift(0, 0), true);
    }

    private static void promise9Probe() {
        HarbourBoard b = withLevels(0, 5.0, 7.0);
        addLevels(b, 1, 7.0);
        addLevels(b, 2, 7.0, null);
        addLevels(b, 5, 0.0);
        addWinds(b, 3, 7f);
        Due.is("9 probe", () -> b.probe(7), 2);
        Due.is("9 only the latest counts", () -> b.probe(5), 0);
        Due.is("9 minus nought is nought", () -> b.probe(-0.0), 1);
        Due.is("9 the edges", () -> b.probe(-1000) + b.probe(1000), 0);
        b.probe(7);
        for (double v : NO_LEVELS) {
            Due.is("9 probe " + v, () -> b.probe(v), Due.ARGUMENT);
        }
        Due.is("9 the probe stays at 7", () -> b.count(0, 0, 4, false), 1);
        Due.is("9 the probe of winds is OUT still", () -> b.count(3, 1, 4, false), 0);
    }

    private static void promise10ProbeWind() {
        HarbourBoard b = new HarbourBoard();
        addWinds(b, 0, 5f, 0.1f);
        addWinds(b, 1, 0.1f);
        addWinds(b, 2, 0.1f, null);
        addLevels(b, 3, (double) 0.1f);
        Due.is("10 probeWind", () -> b.probeWind(0.1f), 2);
        Due.is("10 only the latest counts", () -> b.probeWind(5f), 0);
        Due.is("10 the next float is another", () -> b.probeWind(Math.nextUp(0.1f)), 0);
        Due.is("10 the edges", () -> b.probeWind(0f) + b.probeWind(200f), 0);
        b.probeWind(5f);
        for (float v : NO_WINDS) {
            Due.is("10 probeWind " + v, () -> b.probeWind(v), Due.ARGUMENT);
        }
        Due.is("10 the probe stays at 5", () -> b.count(0, 1, 4, false), 1);
        Due.is("10 the probe of levels is OUT still", () -> b.count(3, 0, 4, false), 0);
    }

    private static void promise11ProbeOut() {
        HarbourBoard b = withLevels(0, 5.0);
        addLevels(b, 1, 5.0, null);
        b.wind(0, 5);
        b.probe(5);
        b.probeWind(5);
        Due.is("11 all are unlike OUT, also what is OUT", () -> b.probeOut(0), 6);
        Due.is("11 the probe of levels is OUT", () -> b.count(0, 0, 4, false), 0);
        Due.is("11 the probe of winds is not", () -> b.count(0, 1, 4, false), 1);
        for (int what : NO_WHATS) {
            Due.is("11 probeOut " + what, () -> b.probeOut(what), Due.ARGUMENT);
        }
        Due.is("11 nothing changed", () -> b.count(0, 1, 4, false), 1);
        Due.is("11 of winds", () -> b.probeOut(1), 6);
        Due.is("11 the probe of winds is OUT", () -> b.count(0, 1, 4, false), 0);
        Due.is("11 on a new board", () -> new HarbourBoard().probeOut(1), 6);
    }

    private static void promise12Run() {
        HarbourBoard b = withLevels(0, 1.0, 2.0, 5.0, 1.0, null, 9.0, 8.0);
        b.probe(5);
        Due.is("12 below", () -> b.run(0, 0, 0, false), 2);
        Due.is("12 at most", () -> b.run(0, 0, 1, false), 4);
        Due.is("12 above", () -> b.run(0, 0, 2, false), 0);
        Due.is("12 unlike", () -> b.run(0, 0, 5, false), 2);
        Due.is("12 back, not below, OUT too", () -> b.run(0, 0, 0, true), 3);
        Due.is("12 back, not above", () -> b.run(0, 0, 2, true), 0);
        Due.is("12 back, not equal to", () -> b.run(0, 0, 4, true), 4);
        Due.is("12 back, not unlike", () -> b.run(0, 0, 5, true), 0);
        b.out(0, 0);
        Due.is("12 back, OUT is not above", () -> b.run(0, 0, 2, true), 1);
        Due.is("12 an empty strip", () -> b.run(1, 0, 5, false), 0);
        Due.is("12 an empty strip, back", () -> b.run(1, 0, 0, true), 0);
        b.probe(-1000);
        Due.is("12 at least, up to OUT", () -> b.run(0, 0, 3, false), 4);
        Due.is("12 the whole strip is not below", () -> b.run(0, 0, 0, true), 8);
        b.probeOut(0);
        Due.is("12 all are unlike OUT", () -> b.run(0, 0, 5, false), 8);
        Due.is("12 none is equal to OUT", () -> b.run(0, 0, 4, false), 0);
        Due.is("12 back, none is equal to OUT", () -> b.run(0, 0, 4, true), 8);
        addWinds(b, 0, 3f, 4f);
        b.probeWind(3);
        Due.is("12 winds go by their own probe", () -> b.run(0, 1, 4, false), 1);
        wrongRelationCalls("12 run", b, true);
    }

    private static void promise13Count() {
        HarbourBoard b = withLevels(0, 1.0, 2.0, 5.0, 1.0, null, 9.0, 8.0);
        b.probe(5);
        int[] hold = {3, 4, 2, 3, 1, 6};
        for (int relation = 0; relation < 6; relation++) {
            int r = relation;
            Due.is("13 count by " + r, () -> b.count(0, 0, r, false), hold[r]);
            Due.is("13 count by not " + r, () -> b.count(0, 0, r, true), 7 - hold[r]);
        }
        Due.is("13 an empty strip", () -> b.count(1, 0, 5, false), 0);
        Due.is("13 an empty strip, not", () -> b.count(1, 0, 5, true), 0);
        addWinds(b, 0, 3f, 4f, null);
        Due.is("13 the probe of winds is OUT", () -> b.count(0, 1, 3, true), 3);
        b.probeWind(4);
        Due.is("13 winds go by their own probe", () -> b.count(0, 1, 0, false), 1);
        wrongRelationCalls("13 count", b, false);
    }

    private static void wrongRelationCalls(String name, HarbourBoard b, boolean run) {
        for (boolean flag : new boolean[] {false, true}) {
            for (int g : NO_GAUGES) {
                Due.is(name + " of gauge " + g, () -> run ? b.run(g, 0, 0, flag) : b.count(g, 0, 0, flag), Due.ARGUMENT);
            }
            for (int what : NO_WHATS) {
                Due.is(name + " of what " + what, () -> run ? b.run(0, what, 0, flag) : b.count(0, what, 0, flag), Due.ARGUMENT);
            }
            for (int r : NO_RELATIONS) {
                Due.is(name + " by " + r, () -> run ? b.run(0, 0, r, flag) : b.count(0, 0, r, flag), Due.ARGUMENT);
                Due.is(name + " of nothing by " + r, () -> run ? b.run(5, 0, r, flag) : b.count(5, 0, r, flag), Due.ARGUMENT);
            }
        }
    }

    private static void promise14Holds() {
        HarbourBoard b = withLevels(0, 9.0, 1.0);
        addLevels(b, 1, 2.0);
        addLevels(b, 2, 2.0, null);
        addLevels(b, 4, 1.0);
        boolean[] lessToMore = {true, true, false, false, false, true};
        boolean[] moreToLess = {false, false, true, true, false, true};
        boolean[] alike = {false, true, false, true, true, false};
        boolean[] withOut = {false, false, false, false, false, true};
        for (int relation = 0; relation < 6; relation++) {
            int r = relation;
            Due.is("14 less to more by " + r, () -> b.holds(0, 1, 0, r), lessToMore[r]);
            Due.is("14 more to less by " + r, () -> b.holds(1, 0, 0, r), moreToLess[r]);
            Due.is("14 equal by " + r, () -> b.holds(0, 4, 0, r), alike[r]);
            Due.is("14 to itself by " + r, () -> b.holds(0, 0, 0, r), alike[r]);
            Due.is("14 number to OUT by " + r, () -> b.holds(0, 2, 0, r), withOut[r]);
            Due.is("14 OUT to number by " + r, () -> b.holds(2, 0, 0, r), withOut[r]);
            Due.is("14 OUT to OUT by " + r, () -> b.holds(2, 3, 0, r), withOut[r]);
            Due.is("14 OUT to itself by " + r, () -> b.holds(2, 2, 0, r), withOut[r]);
            Due.is("14 winds, none has come, by " + r, () -> b.holds(0, 1, 1, r), withOut[r]);
        }
        wrongPairCalls("14 holds", b, false);
    }

    private static void promise15Pick() {
        HarbourBoard b = withLevels(0, 1.0);
        addLevels(b, 1, 2.0);
        addLevels(b, 2, 2.0, null);
        addLevels(b, 4, 1.0);
        int[] lessAndMore = {0, 0, 1, 1, -1, 0};
        int[] moreAndLess = {0, 0, 1, 1, -1, 1};
        int[] alike = {-1, 4, -1, 4, 4, -1};
        int[] withOut = {-1, -1, -1, -1, -1, 2};
        for (int relation = 0; relation < 6; relation++) {
            int r = relation;
            Due.is("15 less and more by " + r, () -> b.pick(0, 1, 0, r), lessAndMore[r]);
            Due.is("15 more and less by " + r, () -> b.pick(1, 0, 0, r), moreAndLess[r]);
            Due.is("15 equal by " + r, () -> b.pick(4, 0, 0, r), alike[r]);
            Due.is("15 OUT and number by " + r, () -> b.pick(2, 0, 0, r), withOut[r]);
            Due.is("15 OUT and OUT by " + r, () -> b.pick(2, 3, 0, r), withOut[r]);
            Due.is("15 OUT and itself by " + r, () -> b.pick(2, 2, 0, r), withOut[r]);
        }
        b.wind(0, 3);
        b.wind(1, 2);
        Due.is("15 winds", () -> b.pick(0, 1, 1, 0), 1);
        wrongPairCalls("15 pick", b, true);
    }

    private static void wrongPairCalls(String name, HarbourBoard b, boolean pick) {
        for (int g : NO_GAUGES) {
            Due.is(name + " of gauge " + g, () -> pick ? b.pick(g, 0, 0, 0) : b.holds(g, 0, 0, 0), Due.ARGUMENT);
            Due.is(name + " to gauge " + g, () -> pick ? b.pick(0, g, 0, 0) : b.holds(0, g, 0, 0), Due.ARGUMENT);
        }
        for (int what : NO_WHATS) {
            Due.is(name + " of what " + what, () -> pick ? b.pick(0, 1, what, 0) : b.holds(0, 1, what, 0), Due.ARGUMENT);
        }
        for (int r : NO_RELATIONS) {
            Due.is(name + " by " + r, () -> pick ? b.pick(0, 1, 0, r) : b.holds(0, 1, 0, r), Due.ARGUMENT);
        }
    }

    private static void promise16StandOfLevels() {
        HarbourBoard b = new HarbourBoard();
        b.mark(0, 0, 3);
        Due.is("16 empty, marks or not", () -> b.stand(0), 0);
        b.out(0, 0);
        Due.is("16 OUT", () -> b.stand(0), 1);
        b.level(0, 2);
        Due.is("16 below LOW", () -> b.stand(0), 2);
        b.mark(0, 1, 1);
        Due.is("16 below LOW and above HIGH: the first", () -> b.stand(0), 2);
        b.lift(0, 0);
        Due.is("16 above HIGH", () -> b.stand(0), 3);
        b.mark(0, 0, 2);
        Due.is("16 above HIGH and equal to LOW: the first", () -> b.stand(0), 3);
        b.mark(0, 1, 2);
        Due.is("16 equal to both", () -> b.stand(0), 4);
        b.lift(0, 0);
        Due.is("16 equal to HIGH alone", () -> b.stand(0), 4);
        b.mark(0, 1, 9);
        Due.is("16 HIGH alone is SET, the level below it", () -> b.stand(0), 6);
        b.mark(0, 0, 2);
        Due.is("16 equal to LOW, below HIGH", () -> b.stand(0), 4);
        b.mark(0, 0, 1);
        Due.is("16 between", () -> b.stand(0), 6);
        b.lift(0, 1);
        Due.is("16 LOW alone is SET, the level above it", () -> b.stand(0), 6);
        b.lift(0, 0);
        Due.is("16 neither is SET", () -> b.stand(0), 5);
        for (int g : NO_GAUGES) {
            Due.is("16 stand of gauge " + g, () -> b.stand(g), Due.ARGUMENT);
        }
    }

    private static void promise16StandOfWinds() {
        HarbourBoard b = new HarbourBoard();
        b.level(0, 2);
        b.wind(0, 5);
        Due.is("16 GALE is not SET", () -> b.stand(0), 5);
        b.gale(0, 6);
        Due.is("16 the wind is below GALE", () -> b.stand(0), 15);
        b.gale(0, 5);
        Due.is("16 the wind is at GALE", () -> b.stand(0), 25);
        b.gale(0, 4);
        Due.is("16 the wind is above GALE", () -> b.stand(0), 25);
        b.out(0, 1);
        Due.is("16 the wind is OUT", () -> b.stand(0), 35);
        b.clear(0);
        Due.is("16 no wind has come", () -> b.stand(0), 30);
        b.lift(0, 2);
        b.out(0, 1);
        Due.is("16 the wind is OUT, and GALE is not SET", () -> b.stand(0), 0);
        Due.is("16 each gauge by itself", () -> b.stand(1), 0);
    }

    private static void order(HarbourBoard b, int... gauges) {
        for (int k = 0; k < 6; k++) {
            int place = k;
            Due.is("17 order " + k, () -> b.order(place), gauges[k]);
        }
    }

    private static void promise17Order() {
        HarbourBoard b = new HarbourBoard();
        order(b, 0, 1, 2, 3, 4, 5);
        b.level(4, -1000);
        order(b, 4, 0, 1, 2, 3, 5);
        b.level(5, 7);
        order(b, 5, 4, 0, 1, 2, 3);
        b.level(1, 7);
        order(b, 1, 5, 4, 0, 2, 3);
        b.out(0, 0);
        b.level(3, 0.0);
        b.level(2, -0.0);
        order(b, 1, 5, 2, 3, 4, 0);
        b.out(1, 0);
        order(b, 5, 2, 3, 4, 0, 1);
        b.wind(0, 9);
        order(b, 5, 2, 3, 4, 0, 1);
        for (int k : NO_GAUGES) {
            Due.is("17 order " + k, () -> b.order(k), Due.ARGUMENT);
        }
    }

    private static void promise18Highest() {
        HarbourBoard b = withLevels(0, null, -8.5, -1000.0, null, -9.0, null);
        Due.is("18 highest of negative ones", () -> b.highest(0), -8.5);
        b.level(0, 0.1);
        Due.is("18 the last one", () -> b.highest(0), 0.1);
        b.wind(0, 9);
        Due.is("18 winds do not count", () -> b.highest(0), 0.1);
        Due.is("18 the least level alone", () -> withLevels(0, -1000.0).highest(0), -1000.0);
        Due.is("18 an empty strip", () -> b.highest(1), Due.NO_ELEMENT);
        Due.is("18 nothing but OUT", () -> withLevels(2, null, null).highest(2), Due.NO_ELEMENT);
        for (int g : NO_GAUGES) {
            Due.is("18 highest of gauge " + g, () -> b.highest(g), Due.ARGUMENT);
        }
    }

    private static void promise19Calmest() {
        HarbourBoard b = new HarbourBoard();
        addWinds(b, 0, null, 8.5f, 200f, null, 9f, null);
        Due.is("19 calmest", () -> b.calmest(0), 8.5f);
        b.wind(0, 0.1f);
        Due.is("19 the very float that came", () -> b.calmest(0), 0.1f);
        b.level(0, -5);
        Due.is("19 levels do not count", () -> b.calmest(0), 0.1f);
        b.wind(2, 200);
        Due.is("19 the greatest wind alone", () -> b.calmest(2), 200f);
        Due.is("19 an empty strip", () -> b.calmest(1), Due.NO_ELEMENT);
        b.out(1, 1);
        Due.is("19 nothing but OUT", () -> b.calmest(1), Due.NO_ELEMENT);
        for (int g : NO_GAUGES) {
            Due.is("19 calmest of gauge " + g, () -> b.calmest(g), Due.ARGUMENT);
        }
    }

    private static int sameOf(Double[] ofG, Double[] ofH) {
        HarbourBoard b = withLevels(2, ofG);
        addLevels(b, 5, ofH);
        b.wind(2, 1);
        return b.same(2, 5);
    }

    private static void promise20Same() {
        Due.is("20 both empty", () -> sameOf(new Double[] {}, new Double[] {}), 2);
        Due.is("20 equal", () -> sameOf(new Double[] {1.0, 0.0}, new Double[] {1.0, -0.0}), 2);
        Due.is("20 one more", () -> sameOf(new Double[] {1.0, 2.0}, new Double[] {1.0}), 0);
        Due.is("20 one less", () -> sameOf(new Double[] {}, new Double[] {null}), 0);
        Due.is("20 another last", () -> sameOf(new Double[] {1.0, 2.0}, new Double[] {1.0, 3.0}), 0);
        Due.is("20 another first", () -> sameOf(new Double[] {0.5, 2.0}, new Double[] {1.0, 2.0}), 0);
        Due.is("20 other places", () -> sameOf(new Double[] {1.0, 2.0}, new Double[] {2.0, 1.0}), 0);
        Due.is("20 both OUT", () -> sameOf(new Double[] {1.0, null, 2.0}, new Double[] {1.0, null, 2.0}), 1);
        Due.is("20 nothing but OUT", () -> sameOf(new Double[] {null}, new Double[] {null}), 1);
        Due.is("20 both OUT, then another", () -> sameOf(new Double[] {null, 1.0}, new Double[] {null, 2.0}), 0);
        Due.is("20 OUT and a number", () -> sameOf(new Double[] {null}, new Double[] {0.0}), 0);
        Due.is("20 a number and OUT", () -> sameOf(new Double[] {0.0}, new Double[] {null}), 0);
        HarbourBoard b = withLevels(3, 1.0, 2.0);
        Due.is("20 one and itself", () -> b.same(3, 3), 2);
        b.out(3, 0);
        Due.is("20 one with OUT and itself", () -> b.same(3, 3), 1);
        for (int g : NO_GAUGES) {
            Due.is("20 same of gauge " + g, () -> b.same(g, 0), Due.ARGUMENT);
            Due.is("20 same to gauge " + g, () -> b.same(0, g), Due.ARGUMENT);
        }
    }

    private static void promise21MoveToOpen() {
        HarbourBoard b = new HarbourBoard();
        Due.is("21 it is shut already", () -> b.move(false), Due.STATE);
        Due.is("21 both OUT", () -> b.move(true), Due.UNSUPPORTED);
        b.level(0, 5);
        Due.is("21 OUTSIDE is OUT", () -> b.move(true), Due.UNSUPPORTED);
        b.level(1, 6);
        Due.is("21 INSIDE is below", () -> b.move(true), Due.UNSUPPORTED);
        b.level(1, 5);
        Due.is("21 INSIDE is equal", () -> b.move(true), Due.UNSUPPORTED);
        b.gale(1, 7);
        Due.is("21 the first of two", () -> b.move(true), Due.UNSUPPORTED);
        b.level(1, 4);
        Due.is("21 GALE is SET, no wind has come", () -> b.move(true), Due.ARITHMETIC);
        b.wind(1, 8);
        Due.is("21 the wind is above GALE", () -> b.move(true), Due.ARITHMETIC);
        b.wind(1, 7);
        Due.is("21 the wind is at GALE", () -> b.move(true), Due.ARITHMETIC);
        b.out(1, 1);
        Due.is("21 the wind is OUT", () -> b.move(true), Due.ARITHMETIC);
        b.wind(1, 6.5f);
        b.gale(0, 0);
        b.wind(0, 9);
        Due.is("21 it opens, whatever INSIDE's GALE", () -> b.move(true), 1);
        Due.is("21 it is open already", () -> b.move(true), Due.STATE);
        b.out(0, 0);
        Due.is("21 that comes first", () -> b.move(true), Due.STATE);
        HarbourBoard c = withLevels(0, 5.0);
        addLevels(c, 1, 4.0);
        c.wind(1, 200);
        Due.is("21 GALE is not SET", () -> c.move(true), 1);
    }

    private static HarbourBoard openGate() {
        HarbourBoard b = withLevels(0, 5.0);
        b.level(1, 4);
        b.move(true);
        return b;
    }

    private static void promise21MoveToShut() {
        Due.is("21 no marks: it shuts", () -> openGate().move(false), 2);
        HarbourBoard b = openGate();
        b.mark(0, 0, 4.5);
        b.mark(0, 1, 9);
        Due.is("21 INSIDE is above LOW, the first of two", () -> b.move(false), Due.UNSUPPORTED);
        b.mark(0, 0, 5);
        Due.is("21 INSIDE is at LOW, OUTSIDE below HIGH", () -> b.move(false), Due.ARITHMETIC);
        b.mark(0, 1, 4);
        Due.is("21 OUTSIDE is at HIGH", () -> b.move(false), Due.ARITHMETIC);
        b.mark(0, 1, 3);
        Due.is("21 OUTSIDE is above HIGH", () -> b.move(false), 2);
        Due.is("21 shut already", () -> b.move(false), Due.STATE);
        Due.is("21 it opens again", () -> b.move(true), 3);
        b.mark(0, 1, 1000);
        b.out(1, 0);
        Due.is("21 OUTSIDE is OUT", () -> b.move(false), 4);
        HarbourBoard c = openGate();
        c.mark(0, 0, 0);
        c.out(0, 0);
        Due.is("21 INSIDE is OUT", () -> c.move(false), 2);
        HarbourBoard d = openGate();
        d.mark(1, 0, -5);
        d.mark(1, 1, 50);
        d.gale(1, 0);
        Due.is("21 OUTSIDE's marks don't hinder", () -> d.move(false), 2);
    }

    private static void promise22Size() {
        HarbourBoard b = new HarbourBoard();
        addLevels(b, 4, 1.0, null, 1.0);
        addWinds(b, 4, null, 1f);
        Due.is("22 size of levels, OUT too", () -> b.size(4, 0), 3);
        Due.is("22 size of winds", () -> b.size(4, 1), 2);
        Due.is("22 size of another gauge", () -> b.size(3, 0), 0);
        for (int g : NO_GAUGES) {
            Due.is("22 size of gauge " + g, () -> b.size(g, 0), Due.ARGUMENT);
        }
        for (int what : NO_WHATS) {
            Due.is("22 size of what " + what, () -> b.size(4, what), Due.ARGUMENT);
        }
    }
}
