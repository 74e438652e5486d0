import java.util.ArrayList;
import java.util.List;

/** No test: two boards that are alike, a call on one of them, and whether all that they answer later is alike too. */
final class Twins {
    interface Call {
        Object on(HarbourBoard b);
    }

    record Named(String name, Call call) {
    }

    static final Named NEW = new Named("a new board", b -> null);
    static final Named MIXED = new Named("a mixed board", Twins::mix);
    static final Named OPEN = new Named("a mixed board with the gate open", Twins::mixAndOpen);
    static final Named FULL = new Named("a full board", Twins::fill);
    static final Named FULL_OPEN = new Named("a full board with the gate open", Twins::fillAndOpen);
    static final Named FULL_OF_OUT = new Named("a board full of OUT", Twins::fillWithOut);
    static final List<Named> STATES = List.of(NEW, MIXED, OPEN, FULL, FULL_OPEN, FULL_OF_OUT);

    private Twins() {
    }

    /** The call has this answer in this state, and every later answer is as if it had not been made. */
    static void leavesNoTrace(Named state, String name, Call call, Object due) {
        HarbourBoard tried = new HarbourBoard();
        HarbourBoard untried = new HarbourBoard();
        state.call.on(tried);
        state.call.on(untried);
        String where = name + ", on " + state.name;
        Due.is(where, () -> call.on(tried), due);
        Due.same("all later answers behind " + where, firstUnlike(laterAnswers(tried), laterAnswers(untried)), "are alike");
    }

    /** The call on a mixed board shows in the later answers. */
    static void leavesTrace(String name, Call change) {
        HarbourBoard changed = new HarbourBoard();
        HarbourBoard unchanged = new HarbourBoard();
        mix(changed);
        mix(unchanged);
        change.on(changed);
        List<String> later = laterAnswers(changed);
        Due.is("the later answers show " + name, () -> later.equals(laterAnswers(unchanged)), false);
    }

    /** A mixed board with one more call; INSIDE's latest level is 30, OUTSIDE's 29, its wind 39, the marks 40, 50, 60. */
    static Named shutAnd(String name, Call more) {
        return new Named(name, b -> {
            mix(b);
            return more.on(b);
        });
    }

    static Named openAnd(String name, Call more) {
        return new Named(name, b -> {
            mixAndOpen(b);
            return more.on(b);
        });
    }

    private static Object mix(HarbourBoard b) {
        for (int g = 0; g < 6; g++) {
            comeMixed(b, g);
        }
        markAll(b);
        return null;
    }

    static void comeMixed(HarbourBoard b, int g) {
        b.level(g, 10 + g);
        b.out(g, 0);
        b.level(g, 30 - g);
        b.wind(g, 20 + g);
        b.out(g, 1);
        b.wind(g, 40 - g);
    }

    private static void markAll(HarbourBoard b) {
        for (int g = 0; g < 6; g++) {
            b.mark(g, 0, 40);
            b.mark(g, 1, 50);
            b.gale(g, 60);
        }
        b.probe(28);
        b.probeWind(38);
    }

    private static Object mixAndOpen(HarbourBoard b) {
        mix(b);
        return b.move(true);
    }

    private static Object fill(HarbourBoard b) {
        for (int g = 0; g < 6; g++) {
            for (int i = 0; i < 12; i++) {
                b.level(g, 20 + i - g);
                b.wind(g, 30 + i - g);
            }
        }
        markAll(b);
        return null;
    }

    private static Object fillAndOpen(HarbourBoard b) {
        fill(b);
        return b.move(true);
    }

    private static Object fillWithOut(HarbourBoard b) {
        for (int g = 0; g < 6; g++) {
            for (int i = 0; i < 12; i++) {
                b.out(g, 0);
                b.out(g, 1);
            }
        }
        return null;
    }

    private static String firstUnlike(List<String> tried, List<String> untried) {
        for (int i = 0; i < tried.size(); i++) {
            if (!tried.get(i).equals(untried.get(i))) {
                return "call " + (i + 1) + ", " + tried.get(i) + ", and without it " + untried.get(i);
            }
        }
        return "are alike";
    }

    /** 241 calls that bring to light all that a board holds, each of its parts before they change it. */
    private static List<String> laterAnswers(HarbourBoard b) {
        List<String> all = new ArrayList<>();
        askAll(all, b);
        moveToAndFro(all, b);
        probeTheStrips(all, b);
        askTheMarks(all, b);
        moveToAndFro(all, b);
        liftAll(all, b);
        countTheMoves(all, b);
        return all;
    }

    private static void ask(List<String> all, String name, HarbourBoard b, Call call) {
        all.add(name + "=" + Due.answerOf(() -> call.on(b)));
    }

    static void askAll(List<String> all, HarbourBoard b) {
        for (int i = 0; i < 6; i++) {
            int g = i;
            int h = (i + 1) % 6;
            ask(all, "stand", b, x -> x.stand(g));
            ask(all, "order", b, x -> x.order(g));
            ask(all, "highest", b, x -> x.highest(g));
            ask(all, "calmest", b, x -> x.calmest(g));
            ask(all, "same", b, x -> x.same(g, h));
            for (int w = 0; w < 2; w++) {
                int what = w;
                ask(all, "size", b, x -> x.size(g, what));
                ask(all, "holds", b, x -> x.holds(g, h, what, 2));
                ask(all, "pick", b, x -> x.pick(g, h, what, 1));
                ask(all, "count below", b, x -> x.count(g, what, 0, false));
                ask(all, "count not equal", b, x -> x.count(g, what, 4, true));
                ask(all, "run at most", b, x -> x.run(g, what, 1, false));
                ask(all, "run back at most", b, x -> x.run(g, what, 1, true));
            }
        }
    }

    private static void moveToAndFro(List<String> all, HarbourBoard b) {
        ask(all, "move", b, x -> x.move(true));
        ask(all, "move", b, x -> x.move(false));
        ask(all, "move", b, x -> x.move(true));
    }

    private static void probeTheStrips(List<String> all, HarbourBoard b) {
        for (int v = 20; v <= 30; v += 5) {
            int near = v;
            ask(all, "probe", b, x -> x.probe(near));
            ask(all, "probeWind", b, x -> x.probeWind(near + 10));
            for (int i = 0; i < 6; i++) {
                int g = i;
                ask(all, "run of levels", b, x -> x.run(g, 0, 0, false));
                ask(all, "run of winds", b, x -> x.run(g, 1, 2, true));
            }
        }
    }

    /** Marks show in how a gauge stands: so levels and winds are put just below, at and above each of them. */
    private static void askTheMarks(List<String> all, HarbourBoard b) {
        for (int i = 0; i < 6; i++) {
            int g = i;
            ask(all, "clear", b, x -> x.clear(g));
            ask(all, "level", b, x -> x.level(g, 40 - 0.5));
            ask(all, "wind", b, x -> x.wind(g, 60 - 0.5f));
            ask(all, "stand", b, x -> x.stand(g));
            ask(all, "level", b, x -> x.level(g, 40));
            ask(all, "wind", b, x -> x.wind(g, 60));
            ask(all, "stand", b, x -> x.stand(g));
            ask(all, "level", b, x -> x.level(g, 50));
            ask(all, "stand", b, x -> x.stand(g));
        }
    }

    private static void liftAll(List<String> all, HarbourBoard b) {
        for (int i = 0; i < 18; i++) {
            int g = i / 3;
            int mark = i % 3;
            ask(all, "lift", b, x -> x.lift(g, mark));
        }
    }

    /** Without marks, and with INSIDE above OUTSIDE, nothing hinders the gate: so it tells how often it moved. */
    private static void countTheMoves(List<String> all, HarbourBoard b) {
        ask(all, "clear", b, x -> x.clear(0));
        ask(all, "clear", b, x -> x.clear(1));
        ask(all, "level", b, x -> x.level(0, 2));
        ask(all, "level", b, x -> x.level(1, 1));
        moveToAndFro(all, b);
    }
}
