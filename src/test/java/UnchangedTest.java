import java.util.ArrayList;
import java.util.List;

/** A call changes what its promise says and nothing beside: what asks changes nothing, and what is undone is gone. */
public final class UnchangedTest {
    public static void main(String[] args) {
        theLaterAnswersShowEveryChange();
        askingChangesNothing();
        changesOfNothing();
        markAndBack();
        probeAndBack();
        readingsAndClear();
        clearKeepsAllElse();
        boardsAreApart();
        Due.finish();
    }

    /** The comparison of twins proves nothing unless it tells boards apart that one call has made unlike. */
    private static void theLaterAnswersShowEveryChange() {
        for (int i = 0; i < 6; i++) {
            int g = i;
            Twins.leavesTrace("level " + g, b -> b.level(g, 28.25));
            Twins.leavesTrace("wind " + g, b -> b.wind(g, 38.25f));
            Twins.leavesTrace("out of levels " + g, b -> b.out(g, 0));
            Twins.leavesTrace("out of winds " + g, b -> b.out(g, 1));
            Twins.leavesTrace("clear " + g, b -> b.clear(g));
            Twins.leavesTrace("LOW " + g, b -> b.mark(g, 0, 40.25));
            Twins.leavesTrace("HIGH " + g, b -> b.mark(g, 1, 49.75));
            Twins.leavesTrace("gale " + g, b -> b.gale(g, 60.25f));
            for (int k = 0; k < 3; k++) {
                int mark = k;
                Twins.leavesTrace("lift " + mark + " of " + g, b -> b.lift(g, mark));
            }
        }
        Twins.leavesTrace("probe", b -> b.probe(29));
        Twins.leavesTrace("probeWind", b -> b.probeWind(39));
        Twins.leavesTrace("probeOut of levels", b -> b.probeOut(0));
        Twins.leavesTrace("probeOut of winds", b -> b.probeOut(1));
        Twins.leavesTrace("move", b -> b.move(true));
        Twins.leavesTrace("two moves, though all else is as before", b -> moveToAndFro(b));
    }

    private static boolean moveToAndFro(HarbourBoard b) {
        b.lift(0, 1);
        b.move(true);
        b.move(false);
        return b.mark(0, 1, 50);
    }

    private static void askingChangesNothing() {
        for (Twins.Named state : List.of(Twins.NEW, Twins.MIXED, Twins.OPEN)) {
            Twins.leavesNoTrace(state, "12 to 20 and 22, all that asks", b -> allAsked(b), "asked");
        }
    }

    private static String allAsked(HarbourBoard b) {
        Twins.askAll(new ArrayList<>(), b);
        return "asked";
    }

    private static void changesOfNothing() {
        for (int i = 0; i < 6; i++) {
            int g = i;
            Twins.leavesNoTrace(Twins.NEW, "5 clear of empty strips", b -> b.clear(g), 0);
            for (int k = 0; k < 3; k++) {
                int mark = k;
                Twins.leavesNoTrace(Twins.NEW, "8 lift of what is not SET", b -> b.lift(g, mark), false);
            }
            Twins.leavesNoTrace(Twins.MIXED, "6 LOW to what it is", b -> b.mark(g, 0, 40), true);
            Twins.leavesNoTrace(Twins.MIXED, "6 HIGH to what it is", b -> b.mark(g, 1, 50), true);
            Twins.leavesNoTrace(Twins.MIXED, "7 GALE to what it is", b -> b.gale(g, 60), true);
        }
        Twins.leavesNoTrace(Twins.MIXED, "9 the probe to what it is", b -> b.probe(28), 1);
        Twins.leavesNoTrace(Twins.MIXED, "10 the probe to what it is", b -> b.probeWind(38), 1);
        for (int w = 0; w < 2; w++) {
            int what = w;
            Twins.leavesNoTrace(Twins.NEW, "11 the probe is OUT already", b -> b.probeOut(what), 6);
            Twins.leavesNoTrace(Twins.FULL_OF_OUT, "11 the probe is OUT already", b -> b.probeOut(what), 6);
        }
    }

    private static boolean markAndLift(HarbourBoard b, int g, int mark) {
        boolean before = mark == 2 ? b.gale(g, 5) : b.mark(g, mark, 5);
        return !before && b.lift(g, mark);
    }

    private static boolean liftAndMark(HarbourBoard b, int g, int mark) {
        boolean before = b.lift(g, mark);
        return before && !(mark == 2 ? b.gale(g, 60) : b.mark(g, mark, mark == 0 ? 40 : 50));
    }

    private static void markAndBack() {
        for (int i = 0; i < 18; i++) {
            int g = i / 3;
            int mark = i % 3;
            Twins.leavesNoTrace(Twins.NEW, "6 to 8 mark and lift", b -> markAndLift(b, g, mark), true);
            Twins.leavesNoTrace(Twins.FULL_OF_OUT, "6 to 8 mark and lift", b -> markAndLift(b, g, mark), true);
            Twins.leavesNoTrace(Twins.OPEN, "6 to 8 lift and mark", b -> liftAndMark(b, g, mark), true);
        }
    }

    private static void probeAndBack() {
        Twins.leavesNoTrace(Twins.OPEN, "9 the probe of levels there and back", b -> b.probe(5) + b.probe(28), 1);
        Twins.leavesNoTrace(Twins.OPEN, "10 the probe of winds there and back", b -> b.probeWind(5) + b.probeWind(38), 1);
        Twins.leavesNoTrace(Twins.OPEN, "11 the probe of levels OUT and back", b -> b.probeOut(0) + b.probe(28), 7);
        Twins.leavesNoTrace(Twins.OPEN, "11 the probe of winds OUT and back", b -> b.probeOut(1) + b.probeWind(38), 7);
        Twins.leavesNoTrace(Twins.NEW, "9 a probe of levels and OUT", b -> b.probe(0) + b.probeOut(0), 6);
        Twins.leavesNoTrace(Twins.NEW, "10 a probe of winds and OUT", b -> b.probeWind(0) + b.probeOut(1), 6);
    }

    /** The marks and probes are SET, and the gate is open, but no gauge has a reading any more. */
    private static final Twins.Named OPEN_AND_CLEARED = Twins.openAnd("all strips cleared", b -> {
        int cleared = 0;
        for (int g = 0; g < 6; g++) {
            cleared += b.clear(g);
        }
        return cleared;
    });

    private static void readingsAndClear() {
        for (int i = 0; i < 6; i++) {
            int g = i;
            Twins.leavesNoTrace(OPEN_AND_CLEARED, "2 and 5 level and clear", b -> b.level(g, 7) + b.clear(g), 2);
            Twins.leavesNoTrace(OPEN_AND_CLEARED, "3 and 5 wind and clear", b -> b.wind(g, 7) + b.clear(g), 2);
            Twins.leavesNoTrace(OPEN_AND_CLEARED, "4 and 5 out of levels and clear", b -> b.out(g, 0) + b.clear(g), 2);
            Twins.leavesNoTrace(OPEN_AND_CLEARED, "4 and 5 out of winds and clear", b -> b.out(g, 1) + b.clear(g), 2);
            Twins.leavesNoTrace(OPEN_AND_CLEARED, "5 clear of empty strips", b -> b.clear(g), 0);
            Twins.leavesNoTrace(OPEN_AND_CLEARED, "2 to 5 two full strips and clear", b -> fillAndClear(b, g), 24);
            Twins.leavesNoTrace(Twins.MIXED, "5 clear, and the same readings anew", b -> clearAndAnew(b, g), 6);
            Twins.leavesNoTrace(Twins.OPEN, "5 clear, and the same readings anew", b -> clearAndAnew(b, g), 6);
        }
    }

    private static int fillAndClear(HarbourBoard b, int g) {
        for (int i = 0; i < 12; i++) {
            b.level(g, i);
            b.wind(g, i);
        }
        return b.clear(g);
    }

    private static int clearAndAnew(HarbourBoard b, int g) {
        int cleared = b.clear(g);
        Twins.comeMixed(b, g);
        return cleared;
    }

    private static void clearKeepsAllElse() {
        HarbourBoard b = new HarbourBoard();
        b.level(0, 5);
        b.level(1, 4);
        b.wind(1, 6);
        b.probe(4);
        b.probeWind(6);
        b.move(true);
        b.mark(0, 0, 1);
        b.mark(0, 1, 2);
        b.gale(0, 3);
        Due.is("5 clear", () -> b.clear(0), 1);
        Due.is("5 the probe of levels stays", () -> b.count(1, 0, 4, false), 1);
        Due.is("5 the probe of winds stays", () -> b.count(1, 1, 4, false), 1);
        Due.is("5 the gate stays open", () -> b.move(true), Due.STATE);
        Due.is("5 the gate keeps its count", () -> b.move(false), 2);
        Due.is("5 LOW stays SET", () -> b.lift(0, 0), true);
        Due.is("5 HIGH stays SET", () -> b.lift(0, 1), true);
        Due.is("5 GALE stays SET", () -> b.lift(0, 2), true);
        Due.is("5 another gauge's levels stay", () -> b.size(1, 0), 1);
        Due.is("5 another gauge's winds stay", () -> b.size(1, 1), 1);
    }

    private static void boardsAreApart() {
        for (Twins.Named state : Twins.STATES) {
            Twins.leavesNoTrace(state, "1 another object, and all that is done to it", b -> anotherBoard(), 1);
        }
    }

    private static int anotherBoard() {
        HarbourBoard other = new HarbourBoard();
        for (int g = 0; g < 6; g++) {
            other.level(g, 9 - g);
            other.wind(g, g);
            other.mark(g, 0, -9);
            other.mark(g, 1, 9);
            other.gale(g, 9);
        }
        other.probe(1);
        other.probeWind(1);
        return other.move(true);
    }
}
