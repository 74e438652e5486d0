/** The gate (promise 21): each thing that hinders it, by as little as can be, and which of several is thrown. */
public final class GateTest {
    public static void main(String[] args) {
        shutAtFirst();
        opensByLevels();
        opensByWind();
        shutsByLow();
        shutsByHigh();
        theFirstOfSeveral();
        onlyItsOwnGauges();
        refusedMovesDoNotCount();
        Due.finish();
    }

    private static void levelOrOut(HarbourBoard b, int g, Double v) {
        if (v == null) {
            b.out(g, 0);
        } else {
            b.level(g, v);
        }
    }

    private static HarbourBoard board(Double inside, Double outside) {
        HarbourBoard b = new HarbourBoard();
        levelOrOut(b, 0, inside);
        levelOrOut(b, 1, outside);
        return b;
    }

    /** The gate is open, and these came behind the levels that opened it. */
    private static HarbourBoard openBoard(Double inside, Double outside) {
        HarbourBoard b = board(5.0, 4.0);
        b.move(true);
        levelOrOut(b, 0, inside);
        levelOrOut(b, 1, outside);
        return b;
    }

    private static void shutAtFirst() {
        Due.is("21 shut already", () -> new HarbourBoard().move(false), Due.STATE);
        Due.is("21 shut already, whatever the levels", () -> board(5.0, 4.0).move(false), Due.STATE);
        Due.is("21 open already", () -> openBoard(5.0, 4.0).move(true), Due.STATE);
        HarbourBoard b = openBoard(5.0, 4.0);
        Due.is("21 it shuts", () -> b.move(false), 2);
        Due.is("21 shut again already", () -> b.move(false), Due.STATE);
        Due.is("21 it opens once more", () -> b.move(true), 3);
        Due.is("21 open again already", () -> b.move(true), Due.STATE);
    }

    private static void opensByLevels() {
        Due.is("21 INSIDE is above by as little as can be", () -> board(Math.nextUp(4.0), 4.0).move(true), 1);
        Due.is("21 INSIDE is equal", () -> board(4.0, 4.0).move(true), Due.UNSUPPORTED);
        Due.is("21 INSIDE is below by as little as can be", () -> board(Math.nextDown(4.0), 4.0).move(true), Due.UNSUPPORTED);
        Due.is("21 nought is not above minus nought", () -> board(0.0, -0.0).move(true), Due.UNSUPPORTED);
        Due.is("21 the greatest above the least", () -> board(1000.0, -1000.0).move(true), 1);
        Due.is("21 negative ones", () -> board(-4.0, -5.0).move(true), 1);
        Due.is("21 INSIDE is OUT", () -> board(null, -1000.0).move(true), Due.UNSUPPORTED);
        Due.is("21 OUTSIDE is OUT", () -> board(1000.0, null).move(true), Due.UNSUPPORTED);
        Due.is("21 both are OUT", () -> board(null, null).move(true), Due.UNSUPPORTED);
        Due.is("21 none has come", () -> new HarbourBoard().move(true), Due.UNSUPPORTED);
        HarbourBoard b = board(5.0, 4.0);
        b.level(0, 4);
        Due.is("21 INSIDE's latest counts", () -> b.move(true), Due.UNSUPPORTED);
        b.level(1, 3);
        Due.is("21 OUTSIDE's latest counts", () -> b.move(true), 1);
    }

    private static HarbourBoard windy(Float wind, float gale) {
        HarbourBoard b = board(5.0, 4.0);
        b.gale(1, gale);
        if (wind == null) {
            b.out(1, 1);
        } else {
            b.wind(1, wind);
        }
        return b;
    }

    private static void opensByWind() {
        Due.is("21 the wind is below GALE by as little as can be", () -> windy(Math.nextDown(50f), 50).move(true), 1);
        Due.is("21 the wind is at GALE", () -> windy(50f, 50).move(true), Due.ARITHMETIC);
        Due.is("21 the wind is above GALE by as little as can be", () -> windy(Math.nextUp(50f), 50).move(true), Due.ARITHMETIC);
        Due.is("21 no wind is below a GALE of 0", () -> windy(0f, 0).move(true), Due.ARITHMETIC);
        Due.is("21 minus nought is not below a GALE of 0", () -> windy(-0f, 0).move(true), Due.ARITHMETIC);
        Due.is("21 the wind is OUT", () -> windy(null, 200).move(true), Due.ARITHMETIC);
        HarbourBoard b = board(5.0, 4.0);
        b.gale(1, 200);
        Due.is("21 no wind has come", () -> b.move(true), Due.ARITHMETIC);
        b.wind(1, 200);
        Due.is("21 the greatest wind at the greatest GALE", () -> b.move(true), Due.ARITHMETIC);
        b.lift(1, 2);
        Due.is("21 GALE is lifted", () -> b.move(true), 1);
        HarbourBoard c = board(5.0, 4.0);
        c.out(1, 1);
        Due.is("21 GALE is not SET, the wind is OUT", () -> c.move(true), 1);
        HarbourBoard d = windy(10f, 50);
        d.wind(1, 60);
        Due.is("21 the latest wind counts", () -> d.move(true), Due.ARITHMETIC);
        d.wind(1, 10);
        Due.is("21 the latest wind counts again", () -> d.move(true), 1);
    }

    private static int shutByLow(Double inside, double low) {
        HarbourBoard b = openBoard(inside, 4.0);
        b.mark(0, 0, low);
        return b.move(false);
    }

    private static void shutsByLow() {
        Due.is("21 INSIDE is above LOW by as little as can be", () -> shutByLow(Math.nextUp(3.0), 3), Due.UNSUPPORTED);
        Due.is("21 INSIDE is at LOW", () -> shutByLow(3.0, 3), 2);
        Due.is("21 INSIDE is below LOW by as little as can be", () -> shutByLow(Math.nextDown(3.0), 3), 2);
        Due.is("21 nought is not above a LOW of minus nought", () -> shutByLow(0.0, -0.0), 2);
        Due.is("21 the greatest level above the least LOW", () -> shutByLow(1000.0, -1000), Due.UNSUPPORTED);
        Due.is("21 the least level at the least LOW", () -> shutByLow(-1000.0, -1000), 2);
        Due.is("21 INSIDE is OUT: not above LOW", () -> shutByLow(null, -1000), 2);
        Due.is("21 LOW is not SET", () -> openBoard(1000.0, 4.0).move(false), 2);
        Due.is("21 LOW is not SET, and INSIDE is OUT", () -> openBoard(null, 4.0).move(false), 2);
        HarbourBoard b = openBoard(5.0, 4.0);
        b.mark(0, 0, 4);
        Due.is("21 LOW is SET", () -> b.move(false), Due.UNSUPPORTED);
        b.lift(0, 0);
        Due.is("21 LOW is lifted", () -> b.move(false), 2);
        HarbourBoard c = openBoard(5.0, 4.0);
        c.mark(0, 0, 4);
        c.clear(0);
        Due.is("21 INSIDE is empty: not above LOW", () -> c.move(false), 2);
    }

    private static int shutByHigh(Double outside, double high) {
        HarbourBoard b = openBoard(5.0, outside);
        b.mark(0, 1, high);
        return b.move(false);
    }

    private static void shutsByHigh() {
        Due.is("21 OUTSIDE is above HIGH by as little as can be", () -> shutByHigh(Math.nextUp(7.0), 7), 2);
        Due.is("21 OUTSIDE is at HIGH", () -> shutByHigh(7.0, 7), Due.ARITHMETIC);
        Due.is("21 OUTSIDE is below HIGH by as little as can be", () -> shutByHigh(Math.nextDown(7.0), 7), Due.ARITHMETIC);
        Due.is("21 nought is at a HIGH of minus nought", () -> shutByHigh(0.0, -0.0), Due.ARITHMETIC);
        Due.is("21 the least level at the least HIGH", () -> shutByHigh(-1000.0, -1000), Due.ARITHMETIC);
        Due.is("21 the greatest level at the greatest HIGH", () -> shutByHigh(1000.0, 1000), Due.ARITHMETIC);
        Due.is("21 the greatest level above a HIGH", () -> shutByHigh(1000.0, Math.nextDown(1000.0)), 2);
        Due.is("21 OUTSIDE is OUT", () -> shutByHigh(null, 1000), 2);
        Due.is("21 HIGH is not SET", () -> openBoard(5.0, 4.0).move(false), 2);
        Due.is("21 HIGH is not SET, and OUTSIDE is OUT", () -> openBoard(5.0, null).move(false), 2);
        HarbourBoard b = openBoard(5.0, 4.0);
        b.mark(0, 1, 8);
        Due.is("21 HIGH is SET", () -> b.move(false), Due.ARITHMETIC);
        b.lift(0, 1);
        Due.is("21 HIGH is lifted", () -> b.move(false), 2);
        HarbourBoard c = openBoard(5.0, 4.0);
        c.mark(0, 1, 8);
        c.clear(1);
        Due.is("21 OUTSIDE is empty", () -> c.move(false), 2);
        HarbourBoard d = openBoard(null, 4.0);
        d.mark(0, 1, 8);
        Due.is("21 HIGH hinders, though INSIDE is OUT", () -> d.move(false), Due.ARITHMETIC);
    }

    /** "Of several exceptions of a call the one named first is thrown", all three at once and two by two. */
    private static void theFirstOfSeveral() {
        HarbourBoard b = board(4.0, 4.0);
        b.gale(1, 0);
        Due.is("21 to open: not above, and a gale", () -> b.move(true), Due.UNSUPPORTED);
        HarbourBoard c = openBoard(4.0, 4.0);
        Due.is("21 open already, and not above", () -> c.move(true), Due.STATE);
        c.gale(1, 0);
        Due.is("21 open already, not above, and a gale", () -> c.move(true), Due.STATE);
        c.level(0, 9);
        Due.is("21 open already, and a gale", () -> c.move(true), Due.STATE);
        HarbourBoard d = openBoard(5.0, 4.0);
        d.mark(0, 0, 1);
        d.mark(0, 1, 8);
        Due.is("21 to shut: above LOW, and at most HIGH", () -> d.move(false), Due.UNSUPPORTED);
        HarbourBoard e = board(5.0, 4.0);
        e.mark(0, 0, 1);
        Due.is("21 shut already, and above LOW", () -> e.move(false), Due.STATE);
        e.mark(0, 1, 8);
        Due.is("21 shut already, above LOW, and at most HIGH", () -> e.move(false), Due.STATE);
        e.lift(0, 0);
        Due.is("21 shut already, and at most HIGH", () -> e.move(false), Due.STATE);
    }

    /** What hinders to shut does not hinder to open, nor the other way, nor do the marks of other gauges. */
    private static void onlyItsOwnGauges() {
        HarbourBoard b = board(5.0, 4.0);
        b.mark(0, 0, 1);
        b.mark(0, 1, 8);
        b.gale(0, 0);
        b.wind(0, 9);
        markAll(b, 1, false);
        markAll(b, 2, true);
        Due.is("21 it opens by levels and OUTSIDE's GALE alone", () -> b.move(true), 1);
        HarbourBoard c = openBoard(5.0, 6.0);
        c.gale(0, 0);
        c.wind(0, 9);
        c.wind(1, 9);
        markAll(c, 1, true);
        markAll(c, 2, true);
        Due.is("21 it shuts by INSIDE's LOW and HIGH alone", () -> c.move(false), 2);
        HarbourBoard d = new HarbourBoard();
        d.level(2, 5);
        d.level(3, 4);
        Due.is("21 other gauges' levels do not open it", () -> d.move(true), Due.UNSUPPORTED);
    }

    private static void markAll(HarbourBoard b, int g, boolean gale) {
        b.mark(g, 0, -1000);
        b.mark(g, 1, 1000);
        if (gale) {
            b.gale(g, 0);
        }
    }

    private static void refusedMovesDoNotCount() {
        HarbourBoard b = new HarbourBoard();
        for (int i = 0; i < 3; i++) {
            Due.is("21 refused: shut already", () -> b.move(false), Due.STATE);
            Due.is("21 refused: not above", () -> b.move(true), Due.UNSUPPORTED);
        }
        b.level(0, 5);
        b.level(1, 4);
        b.gale(1, 3);
        Due.is("21 refused: gale", () -> b.move(true), Due.ARITHMETIC);
        Due.is("21 it is shut still", () -> b.move(false), Due.STATE);
        b.wind(1, 2);
        Due.is("21 the first move", () -> b.move(true), 1);
        Due.is("21 refused: open already", () -> b.move(true), Due.STATE);
        b.mark(0, 0, 1);
        Due.is("21 refused: above LOW", () -> b.move(false), Due.UNSUPPORTED);
        Due.is("21 it is open still", () -> b.move(true), Due.STATE);
        b.lift(0, 0);
        b.mark(0, 1, 9);
        Due.is("21 refused: at most HIGH", () -> b.move(false), Due.ARITHMETIC);
        Due.is("21 it is open still, again", () -> b.move(true), Due.STATE);
        b.lift(0, 1);
        Due.is("21 the second move", () -> b.move(false), 2);
        Due.is("21 the third move", () -> b.move(true), 3);
        Due.is("21 another object counts for itself", () -> board(5.0, 4.0).move(true), 1);
        b.clear(0);
        Due.is("21 clear leaves the gate open", () -> b.move(true), Due.STATE);
        Due.is("21 clear leaves the count", () -> b.move(false), 4);
    }
}
