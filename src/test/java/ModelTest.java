import java.util.ArrayList;
import java.util.Collections;
import java.util.List;
import java.util.NoSuchElementException;
import java.util.Set;
import java.util.TreeSet;

/** Long mixed runs of calls, each answer held against a model that is written another way (OUT is null). */
public final class ModelTest {
    private static final int BOARDS = 1500;
    private static final int CALLS = 512;

    private static final double[] LEVELS = {
        8, 16, 24, 8, 16, 24, 0.0, -0.0, -8.5, 0.1, 1000, -1000, 1000.0000001, -1000.0000001,
        Double.NaN, Double.POSITIVE_INFINITY, Double.NEGATIVE_INFINITY, Double.MIN_VALUE,
    };
    private static final float[] WINDS = {
        8, 16, 24, 8, 16, 24, 0f, -0f, 0.1f, 7.5f, 200, 200.00002f, -Float.MIN_VALUE,
        Float.NaN, Float.POSITIVE_INFINITY, Float.NEGATIVE_INFINITY, Float.MIN_VALUE,
    };

    /** The document read once more, with lists and nulls. */
    private static final class Model {
        final List<List<List<Double>>> strips = new ArrayList<>();
        final Double[][] marks = new Double[6][3];
        final Double[] probes = new Double[2];
        boolean open = false;
        int moves = 0;

        Model() {
            for (int g = 0; g < 6; g++) {
                strips.add(List.of(new ArrayList<>(), new ArrayList<>()));
            }
        }

        static void argument(boolean fine) {
            if (!fine) {
                throw new IllegalArgumentException();
            }
        }

        static boolean upTo(int x, int last) {
            return 0 <= x && x <= last;
        }

        static boolean isLevel(double v) {
            return Math.abs(v) <= 1000;
        }

        static boolean isWind(float v) {
            return Math.abs(v - 100) <= 100 && v >= 0;
        }

        static boolean rel(Double a, int relation, Double b) {
            if (a == null || b == null) {
                return relation == 5;
            }
            double x = a;
            double y = b;
            return List.of(x < y, x <= y, x > y, x >= y, x == y, x != y).get(relation);
        }

        Double latest(int g, int what) {
            List<Double> strip = strips.get(g).get(what);
            return strip.isEmpty() ? null : strip.get(strip.size() - 1);
        }

        int add(int g, int what, Double v) {
            List<Double> strip = strips.get(g).get(what);
            if (strip.size() == 12) {
                throw new IllegalStateException();
            }
            strip.add(v);
            return strip.size();
        }

        boolean setMark(int g, int mark, Double v) {
            boolean before = marks[g][mark] != null;
            marks[g][mark] = v;
            return before;
        }

        int setProbe(int what, Double v, int relation) {
            probes[what] = v;
            int n = 0;
            for (int g = 0; g < 6; g++) {
                n += rel(latest(g, what), relation, v) ? 1 : 0;
            }
            return n;
        }

        List<Boolean> truths(int g, int what, int relation) {
            argument(upTo(g, 5) && upTo(what, 1) && upTo(relation, 5));
            List<Boolean> all = new ArrayList<>();
            for (Double v : strips.get(g).get(what)) {
                all.add(rel(v, relation, probes[what]));
            }
            return all;
        }

        int run(int g, int what, int relation, boolean back) {
            List<Boolean> all = truths(g, what, relation);
            if (back) {
                Collections.reverse(all);
            }
            int end = all.indexOf(back);
            return end < 0 ? all.size() : end;
        }

        int count(int g, int what, int relation, boolean not) {
            return Collections.frequency(truths(g, what, relation), !not);
        }

        boolean holds(int g, int h, int what, int relation) {
            argument(upTo(g, 5) && upTo(h, 5) && upTo(what, 1) && upTo(relation, 5));
            return rel(latest(g, what), relation, latest(h, what));
        }

        int pick(int g, int h, int what, int relation) {
            return holds(g, h, what, relation) ? g : holds(h, g, what, relation) ? h : -1;
        }

        int stand(int g) {
            argument(upTo(g, 5));
            Double level = latest(g, 0);
            Double low = marks[g][0];
            Double high = marks[g][1];
            boolean[] so = {
                strips.get(g).get(0).isEmpty(), level == null, rel(level, 0, low), rel(level, 2, high),
                rel(level, 4, low) || rel(level, 4, high), low == null && high == null, true,
            };
            int first = 0;
            while (!so[first]) {
                first++;
            }
            Double gale = marks[g][2];
            Double wind = latest(g, 1);
            int more = gale == null ? 0 : wind == null ? 30 : wind < gale ? 10 : 20;
            return first + more;
        }

        int order(int k) {
            argument(upTo(k, 5));
            List<Integer> all = new ArrayList<>(List.of(0, 1, 2, 3, 4, 5));
            // Adding 0.0 turns -0.0 to 0.0, which Double.compare would tell apart.
            all.sort((a, b) -> Double.compare(
                latest(b, 0) == null ? -9999 : latest(b, 0) + 0.0, latest(a, 0) == null ? -9999 : latest(a, 0) + 0.0));
            return all.get(k);
        }

        double extreme(int g, int what, boolean least) {
            argument(upTo(g, 5));
            List<Double> numbers = new ArrayList<>();
            for (Double v : strips.get(g).get(what)) {
                if (v != null) {
                    numbers.add(v + 0.0);
                }
            }
            if (numbers.isEmpty()) {
                throw new NoSuchElementException();
            }
            return least ? Collections.min(numbers) : Collections.max(numbers);
        }

        int same(int g, int h) {
            argument(upTo(g, 5) && upTo(h, 5));
            List<Double> a = strips.get(g).get(0);
            List<Double> b = strips.get(h).get(0);
            boolean equal = a.size() == b.size();
            boolean alike = equal;
            for (int i = 0; alike && i < a.size(); i++) {
                equal = equal && rel(a.get(i), 4, b.get(i));
                alike = rel(a.get(i), 4, b.get(i)) || a.get(i) == null && b.get(i) == null;
            }
            return equal && alike ? 2 : alike ? 1 : 0;
        }

        int move(boolean to) {
            if (open == to) {
                throw new IllegalStateException();
            }
            Double inside = latest(0, 0);
            Double outside = latest(1, 0);
            Double gale = marks[1][2];
            Double wind = latest(1, 1);
            if (to) {
                if (inside == null || outside == null || inside <= outside) {
                    throw new UnsupportedOperationException();
                }
                if (gale != null && (wind == null || wind >= gale)) {
                    throw new ArithmeticException();
                }
            } else {
                if (inside != null && marks[0][0] != null && inside > marks[0][0]) {
                    throw new UnsupportedOperationException();
                }
                if (marks[0][1] != null && outside != null && outside <= marks[0][1]) {
                    throw new ArithmeticException();
                }
            }
            open = to;
            return ++moves;
        }
    }

    private long seed = 20261116;
    private final Set<String> seen = new TreeSet<>();

    private int below(int n) {
        seed = seed * 6364136223846793005L + 1442695040888963407L;
        return (int) Long.remainderUnsigned(seed >>> 33, n);
    }

    /** 0 .. last as a rule, and now and then what is beyond. */
    private int index(int last) {
        switch (below(60)) {
            case 0: return -1;
            case 1: return last + 1;
            case 2: return below(2) == 0 ? Integer.MIN_VALUE : Integer.MAX_VALUE;
            default: return below(last + 1);
        }
    }

    /** The gauges of the gate come oftener, so that it moves often enough. */
    private int gauge() {
        return below(3) == 0 ? below(2) : index(5);
    }

    private void check(String call, String got, String want) {
        Due.same(call, got, want);
        seen.add(call.substring(0, call.indexOf('(')) + " " + want);
    }

    private void oneCall(HarbourBoard b, Model m) {
        int g = gauge();
        int h = gauge();
        int what = index(1);
        int relation = index(5);
        boolean flag = below(2) == 0;
        double v = LEVELS[below(LEVELS.length)];
        float w = WINDS[below(WINDS.length)];
        String one = "(" + g + ")";
        String two = "(" + g + ", " + what + ")";
        String four = "(" + g + ", " + what + ", " + relation + ", " + flag + ")";
        String pair = "(" + g + ", " + h + ", " + what + ", " + relation + ")";
        switch (below(27)) {
            case 0: case 1: case 2:
                check("level(" + g + ", " + v + ")", Due.answerOf(() -> b.level(g, v)), Due.answerOf(() -> {
                    Model.argument(Model.upTo(g, 5) && Model.isLevel(v));
                    return m.add(g, 0, v);
                }));
                break;
            case 3: case 4:
                check("wind(" + g + ", " + w + ")", Due.answerOf(() -> b.wind(g, w)), Due.answerOf(() -> {
                    Model.argument(Model.upTo(g, 5) && Model.isWind(w));
                    return m.add(g, 1, (double) w);
                }));
                break;
            case 5: case 6:
                check("out" + two, Due.answerOf(() -> b.out(g, what)), Due.answerOf(() -> {
                    Model.argument(Model.upTo(g, 5) && Model.upTo(what, 1));
                    return m.add(g, what, null);
                }));
                break;
            case 7:
                check("clear" + one, Due.answerOf(() -> b.clear(g)), Due.answerOf(() -> {
                    Model.argument(Model.upTo(g, 5));
                    int n = m.strips.get(g).get(0).size() + m.strips.get(g).get(1).size();
                    m.strips.get(g).get(0).clear();
                    m.strips.get(g).get(1).clear();
                    return n;
                }));
                break;
            case 8: {
                int mark = index(1);
                check("mark(" + g + ", " + mark + ", " + v + ")", Due.answerOf(() -> b.mark(g, mark, v)), Due.answerOf(() -> {
                    Model.argument(Model.upTo(g, 5) && Model.upTo(mark, 1) && Model.isLevel(v));
                    return m.setMark(g, mark, v);
                }));
                break;
            }
            case 9:
                check("gale(" + g + ", " + w + ")", Due.answerOf(() -> b.gale(g, w)), Due.answerOf(() -> {
                    Model.argument(Model.upTo(g, 5) && Model.isWind(w));
                    return m.setMark(g, 2, (double) w);
                }));
                break;
            case 10: {
                int mark = index(2);
                check("lift(" + g + ", " + mark + ")", Due.answerOf(() -> b.lift(g, mark)), Due.answerOf(() -> {
                    Model.argument(Model.upTo(g, 5) && Model.upTo(mark, 2));
                    return m.setMark(g, mark, null);
                }));
                break;
            }
            case 11:
                check("probe(" + v + ")", Due.answerOf(() -> b.probe(v)), Due.answerOf(() -> {
                    Model.argument(Model.isLevel(v));
                    return m.setProbe(0, v, 4);
                }));
                break;
            case 12:
                check("probeWind(" + w + ")", Due.answerOf(() -> b.probeWind(w)), Due.answerOf(() -> {
                    Model.argument(Model.isWind(w));
                    return m.setProbe(1, (double) w, 4);
                }));
                break;
            case 13:
                if (below(4) == 0) {
                    check("probeOut(" + what + ")", Due.answerOf(() -> b.probeOut(what)), Due.answerOf(() -> {
                        Model.argument(Model.upTo(what, 1));
                        return m.setProbe(what, null, 5);
                    }));
                }
                break;
            case 14: case 15:
                check("run" + four, Due.answerOf(() -> b.run(g, what, relation, flag)), Due.answerOf(() -> m.run(g, what, relation, flag)));
                break;
            case 16:
                check("count" + four, Due.answerOf(() -> b.count(g, what, relation, flag)), Due.answerOf(() -> m.count(g, what, relation, flag)));
                break;
            case 17:
                check("holds" + pair, Due.answerOf(() -> b.holds(g, h, what, relation)), Due.answerOf(() -> m.holds(g, h, what, relation)));
                break;
            case 18:
                check("pick" + pair, Due.answerOf(() -> b.pick(g, h, what, relation)), Due.answerOf(() -> m.pick(g, h, what, relation)));
                break;
            case 19:
                check("stand" + one, Due.answerOf(() -> b.stand(g)), Due.answerOf(() -> m.stand(g)));
                break;
            case 20: {
                int k = index(5);
                check("order(" + k + ")", Due.answerOf(() -> b.order(k)), Due.answerOf(() -> m.order(k)));
                break;
            }
            case 21:
                check("highest" + one, Due.answerOf(() -> b.highest(g) + 0.0), Due.answerOf(() -> m.extreme(g, 0, false)));
                break;
            case 22:
                check("calmest" + one, Due.answerOf(() -> b.calmest(g) + 0f), Due.answerOf(() -> (float) m.extreme(g, 1, true)));
                break;
            case 23:
                check("same(" + g + ", " + h + ")", Due.answerOf(() -> b.same(g, h)), Due.answerOf(() -> m.same(g, h)));
                break;
            case 24: case 25:
                check("move(" + flag + ")", Due.answerOf(() -> b.move(flag)), Due.answerOf(() -> m.move(flag)));
                break;
            default:
                check("size" + two, Due.answerOf(() -> b.size(g, what)), Due.answerOf(() -> {
                    Model.argument(Model.upTo(g, 5) && Model.upTo(what, 1));
                    return m.strips.get(g).get(what).size();
                }));
                break;
        }
    }

    /** A run that never meets an answer proves nothing of it. */
    private void everyKindWasSeen() {
        List<String> wanted = new ArrayList<>(List.of(
            "level 12", "level " + Due.ARGUMENT, "level " + Due.STATE, "wind 12", "wind " + Due.ARGUMENT, "wind " + Due.STATE,
            "out 12", "out " + Due.ARGUMENT, "out " + Due.STATE, "clear 0", "clear 20", "clear " + Due.ARGUMENT,
            "mark true", "mark false", "mark " + Due.ARGUMENT, "gale true", "gale false", "gale " + Due.ARGUMENT,
            "lift true", "lift false", "lift " + Due.ARGUMENT, "probe 0", "probe 3", "probe " + Due.ARGUMENT,
            "probeWind 0", "probeWind 3", "probeWind " + Due.ARGUMENT, "probeOut 6", "probeOut " + Due.ARGUMENT,
            "run 0", "run 11", "run " + Due.ARGUMENT, "count 0", "count 12", "count " + Due.ARGUMENT,
            "holds true", "holds false", "holds " + Due.ARGUMENT, "pick -1", "pick 5", "pick " + Due.ARGUMENT,
            "order 0", "order 5", "order " + Due.ARGUMENT, "highest 1000.0", "highest " + Due.ARGUMENT, "highest " + Due.NO_ELEMENT,
            "calmest 0.0", "calmest " + Due.ARGUMENT, "calmest " + Due.NO_ELEMENT, "same 0", "same 1", "same 2",
            "same " + Due.ARGUMENT, "move 6", "move " + Due.STATE, "move " + Due.UNSUPPORTED, "move " + Due.ARITHMETIC,
            "size 0", "size 12", "size " + Due.ARGUMENT, "stand " + Due.ARGUMENT));
        for (int more = 0; more <= 30; more += 10) {
            for (int first = 0; first <= 6; first++) {
                wanted.add("stand " + (first + more));
            }
        }
        for (String kind : wanted) {
            Due.is("the runs met '" + kind + "'", () -> seen.contains(kind), true);
        }
    }

    public static void main(String[] args) {
        ModelTest test = new ModelTest();
        for (int i = 0; i < BOARDS; i++) {
            HarbourBoard board = new HarbourBoard();
            Model model = new Model();
            for (int call = 0; call < CALLS; call++) {
                test.oneCall(board, model);
            }
        }
        test.everyKindWasSeen();
        Due.finish();
    }
}
