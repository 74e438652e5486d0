import java.util.ArrayList;
import java.util.List;

/**
 * "Of several exceptions of a call the one named first is thrown; a call that throws changes nothing": each call
 * that is refused is made on one of two boards that are alike, and all that the two answer later must be alike.
 */
public final class RefusedTest {
    private static final int[] NO_GAUGES = {-1, 6, Integer.MIN_VALUE, Integer.MAX_VALUE};
    private static final int[] NO_WHATS = {-1, 2, Integer.MIN_VALUE, Integer.MAX_VALUE};
    private static final int[] NO_RELATIONS = {-1, 6, Integer.MIN_VALUE, Integer.MAX_VALUE};
    private static final double[] NO_LEVELS = {
        Math.nextUp(1000.0), Math.nextDown(-1000.0), Double.NaN, Double.POSITIVE_INFINITY, Double.NEGATIVE_INFINITY,
    };
    private static final float[] NO_WINDS = {
        Math.nextUp(200f), -Float.MIN_VALUE, Float.NaN, Float.POSITIVE_INFINITY, Float.NEGATIVE_INFINITY,
    };

    private static final List<Twins.Named> WRONG_ARGUMENTS = new ArrayList<>();

    public static void main(String[] args) {
        wrongArgumentsOfCallsThatChange();
        wrongArgumentsOfCallsThatAsk();
        wrongArgumentsOfPairs();
        // The wrong argument is named first: it is thrown in each state, full, empty or whatever else is wrong there.
        for (Twins.Named state : Twins.STATES) {
            for (Twins.Named wrong : WRONG_ARGUMENTS) {
                Twins.leavesNoTrace(state, wrong.name(), wrong.call(), Due.ARGUMENT);
            }
        }
        fullStrips();
        noNumbers();
        movesFromShut();
        movesFromOpen();
        Due.finish();
    }

    private static void wrong(String name, Twins.Call call) {
        WRONG_ARGUMENTS.add(new Twins.Named(name, call));
    }

    private static void wrongArgumentsOfCallsThatChange() {
        for (int g : NO_GAUGES) {
            wrong("2 level of gauge " + g, b -> b.level(g, 99));
            wrong("2 a wrong level of gauge " + g, b -> b.level(g, 1001));
            wrong("3 wind of gauge " + g, b -> b.wind(g, 99));
            wrong("3 a wrong wind of gauge " + g, b -> b.wind(g, 201));
            wrong("4 out of gauge " + g, b -> b.out(g, 0));
            wrong("4 out of a wrong what of gauge " + g, b -> b.out(g, 2));
            wrong("5 clear of gauge " + g, b -> b.clear(g));
            wrong("6 mark of gauge " + g, b -> b.mark(g, 0, 99));
            wrong("7 gale of gauge " + g, b -> b.gale(g, 99));
            wrong("8 lift of gauge " + g, b -> b.lift(g, 0));
        }
        for (int g : new int[] {0, 1, 5}) {
            for (double v : NO_LEVELS) {
                wrong("2 level " + v + " of gauge " + g, b -> b.level(g, v));
                wrong("6 LOW at " + v + " of gauge " + g, b -> b.mark(g, 0, v));
                wrong("6 HIGH at " + v + " of gauge " + g, b -> b.mark(g, 1, v));
            }
            for (float v : NO_WINDS) {
                wrong("3 wind " + v + " of gauge " + g, b -> b.wind(g, v));
                wrong("7 gale at " + v + " of gauge " + g, b -> b.gale(g, v));
            }
            for (int what : NO_WHATS) {
                wrong("4 out of what " + what + " of gauge " + g, b -> b.out(g, what));
            }
            for (int mark : new int[] {-1, 2, 3, Integer.MIN_VALUE, Integer.MAX_VALUE}) {
                wrong("6 mark " + mark + " of gauge " + g, b -> b.mark(g, mark, 99));
            }
            for (int mark : new int[] {-1, 3, Integer.MIN_VALUE, Integer.MAX_VALUE}) {
                wrong("8 lift " + mark + " of gauge " + g, b -> b.lift(g, mark));
            }
        }
        for (double v : NO_LEVELS) {
            wrong("9 probe " + v, b -> b.probe(v));
        }
        for (float v : NO_WINDS) {
            wrong("10 probeWind " + v, b -> b.probeWind(v));
        }
        for (int what : NO_WHATS) {
            wrong("11 probeOut " + what, b -> b.probeOut(what));
        }
    }

    private static void wrongArgumentsOfCallsThatAsk() {
        for (int g : NO_GAUGES) {
            wrong("12 run of gauge " + g, b -> b.run(g, 0, 0, false));
            wrong("12 run back of gauge " + g, b -> b.run(g, 1, 5, true));
            wrong("13 count of gauge " + g, b -> b.count(g, 0, 0, false));
            wrong("13 count, not, of gauge " + g, b -> b.count(g, 1, 5, true));
            wrong("16 stand of gauge " + g, b -> b.stand(g));
            wrong("17 order at " + g, b -> b.order(g));
            wrong("18 highest of gauge " + g, b -> b.highest(g));
            wrong("19 calmest of gauge " + g, b -> b.calmest(g));
            wrong("22 size of gauge " + g, b -> b.size(g, 0));
        }
        for (int what : NO_WHATS) {
            wrong("12 run of what " + what, b -> b.run(5, what, 0, false));
            wrong("12 run back of what " + what, b -> b.run(0, what, 5, true));
            wrong("13 count of what " + what, b -> b.count(5, what, 0, false));
            wrong("13 count, not, of what " + what, b -> b.count(0, what, 5, true));
            wrong("22 size of what " + what, b -> b.size(5, what));
        }
        for (int relation : NO_RELATIONS) {
            wrong("12 run by " + relation, b -> b.run(5, 0, relation, false));
            wrong("12 run back by " + relation, b -> b.run(0, 1, relation, true));
            wrong("13 count by " + relation, b -> b.count(5, 0, relation, false));
            wrong("13 count, not, by " + relation, b -> b.count(0, 1, relation, true));
        }
    }

    private static void wrongArgumentsOfPairs() {
        for (int g : NO_GAUGES) {
            wrong("14 holds of gauge " + g, b -> b.holds(g, 0, 0, 0));
            wrong("14 holds to gauge " + g, b -> b.holds(0, g, 0, 0));
            wrong("14 holds of and to gauge " + g, b -> b.holds(g, g, 0, 5));
            wrong("15 pick of gauge " + g, b -> b.pick(g, 0, 0, 0));
            wrong("15 pick to gauge " + g, b -> b.pick(0, g, 0, 5));
            wrong("15 pick of and to gauge " + g, b -> b.pick(g, g, 0, 4));
            wrong("20 same of gauge " + g, b -> b.same(g, 0));
            wrong("20 same to gauge " + g, b -> b.same(0, g));
            wrong("20 same of gauge and itself " + g, b -> b.same(g, g));
        }
        for (int what : NO_WHATS) {
            wrong("14 holds of what " + what, b -> b.holds(0, 5, what, 0));
            wrong("15 pick of what " + what, b -> b.pick(0, 5, what, 5));
        }
        for (int relation : NO_RELATIONS) {
            wrong("14 holds by " + relation, b -> b.holds(0, 5, 0, relation));
            wrong("15 pick by " + relation, b -> b.pick(0, 5, 1, relation));
        }
    }

    private static void fullStrips() {
        for (Twins.Named state : List.of(Twins.FULL, Twins.FULL_OPEN, Twins.FULL_OF_OUT)) {
            for (int i = 0; i < 6; i++) {
                int g = i;
                Twins.leavesNoTrace(state, "2 a thirteenth level of gauge " + g, b -> b.level(g, 99), Due.STATE);
                Twins.leavesNoTrace(state, "2 a thirteenth, lesser level of gauge " + g, b -> b.level(g, -99), Due.STATE);
                Twins.leavesNoTrace(state, "3 a thirteenth wind of gauge " + g, b -> b.wind(g, 99), Due.STATE);
                Twins.leavesNoTrace(state, "3 a thirteenth, lesser wind of gauge " + g, b -> b.wind(g, 0), Due.STATE);
                Twins.leavesNoTrace(state, "4 a thirteenth of levels, OUT, of gauge " + g, b -> b.out(g, 0), Due.STATE);
                Twins.leavesNoTrace(state, "4 a thirteenth of winds, OUT, of gauge " + g, b -> b.out(g, 1), Due.STATE);
            }
        }
    }

    private static void noNumbers() {
        for (Twins.Named state : List.of(Twins.NEW, Twins.FULL_OF_OUT)) {
            for (int i = 0; i < 6; i++) {
                int g = i;
                Twins.leavesNoTrace(state, "18 highest of gauge " + g, b -> b.highest(g), Due.NO_ELEMENT);
                Twins.leavesNoTrace(state, "19 calmest of gauge " + g, b -> b.calmest(g), Due.NO_ELEMENT);
            }
        }
    }

    private static void toOpen(Twins.Named state, String exception) {
        Twins.leavesNoTrace(state, "21 to open", b -> b.move(true), exception);
    }

    private static void toShut(Twins.Named state, String exception) {
        Twins.leavesNoTrace(state, "21 to shut", b -> b.move(false), exception);
    }

    private static void movesFromShut() {
        for (Twins.Named state : List.of(Twins.NEW, Twins.MIXED, Twins.FULL, Twins.FULL_OF_OUT)) {
            toShut(state, Due.STATE);
        }
        toOpen(Twins.NEW, Due.UNSUPPORTED);
        toOpen(Twins.FULL_OF_OUT, Due.UNSUPPORTED);
        toOpen(Twins.shutAnd("equal levels", b -> b.level(0, 29)), Due.UNSUPPORTED);
        toOpen(Twins.shutAnd("INSIDE OUT", b -> b.out(0, 0)), Due.UNSUPPORTED);
        toOpen(Twins.shutAnd("OUTSIDE OUT", b -> b.out(1, 0)), Due.UNSUPPORTED);
        toOpen(Twins.shutAnd("a wind at GALE", b -> b.wind(1, 60)), Due.ARITHMETIC);
        toOpen(Twins.shutAnd("a wind that is OUT", b -> b.out(1, 1)), Due.ARITHMETIC);
        toOpen(Twins.shutAnd("equal levels and a gale", b -> b.level(0, 29) + b.wind(1, 60)), Due.UNSUPPORTED);
    }

    private static void movesFromOpen() {
        toOpen(Twins.OPEN, Due.STATE);
        toOpen(Twins.FULL_OPEN, Due.STATE);
        toOpen(Twins.openAnd("equal levels and a gale", b -> b.level(0, 29) + b.wind(1, 60)), Due.STATE);
        toShut(Twins.openAnd("INSIDE above LOW", b -> b.level(0, 41) + b.level(1, 51)), Due.UNSUPPORTED);
        toShut(Twins.openAnd("OUTSIDE at HIGH", b -> b.level(1, 50)), Due.ARITHMETIC);
        toShut(Twins.openAnd("INSIDE above LOW, OUTSIDE at HIGH", b -> b.level(0, 41) + b.level(1, 50)), Due.UNSUPPORTED);
    }
}
