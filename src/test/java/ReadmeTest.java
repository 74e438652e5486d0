import java.nio.file.Files;
import java.nio.file.Path;
import java.util.ArrayList;
import java.util.List;
import java.util.concurrent.Callable;
import java.util.regex.Matcher;
import java.util.regex.Pattern;

/** README.md tells the truth: its example answers as it says, and each call of the face has its place there. */
public final class ReadmeTest {
    private static final Pattern ROW = Pattern.compile("(?m)^board\\.(.*?);\\s*// (throws )?([^:]*): .*$");

    private final HarbourBoard board = new HarbourBoard();
    private final List<String> told = new ArrayList<>();
    private int next = 0;

    public static void main(String[] args) throws Exception {
        String readme = Files.readString(Path.of("README.md"));
        ReadmeTest test = new ReadmeTest();
        test.readTheExample(readme);
        test.theExample();
        eachCallIsTold(readme);
        Due.finish();
    }

    private void readTheExample(String readme) {
        Matcher rows = ROW.matcher(readme);
        while (rows.find()) {
            told.add(rows.group(1) + " " + (rows.group(2) == null ? "" : "throws.") + rows.group(3));
        }
    }

    /** The next row of the example is this call, and it tells this call's answer. */
    private void row(String call, Callable<?> got) {
        String row = next < told.size() ? told.get(next) : "nothing";
        next++;
        Due.same("README row " + next, row, call + " " + Due.answerOf(got));
    }

    private void theExample() {
        row("level(0, 5.0)", () -> board.level(0, 5.0));
        row("level(1, 4.0)", () -> board.level(1, 4.0));
        row("wind(1, 7.5f)", () -> board.wind(1, 7.5f));
        row("holds(0, 1, 0, 2)", () -> board.holds(0, 1, 0, 2));
        row("pick(1, 0, 0, 2)", () -> board.pick(1, 0, 0, 2));
        row("gale(1, 7.5f)", () -> board.gale(1, 7.5f));
        row("move(true)", () -> board.move(true));
        row("lift(1, 2)", () -> board.lift(1, 2));
        row("move(true)", () -> board.move(true));
        row("move(true)", () -> board.move(true));
        row("out(0, 0)", () -> board.out(0, 0));
        row("stand(0)", () -> board.stand(0));
        row("order(0)", () -> board.order(0));
        row("probe(5.0)", () -> board.probe(5.0));
        row("run(0, 0, 4, false)", () -> board.run(0, 0, 4, false));
        row("count(0, 0, 4, true)", () -> board.count(0, 0, 4, true));
        row("highest(0)", () -> board.highest(0));
        row("calmest(0)", () -> board.calmest(0));
        row("same(0, 0)", () -> board.same(0, 0));
        row("pick(2, 3, 0, 4)", () -> board.pick(2, 3, 0, 4));
        row("clear(0)", () -> board.clear(0));
        row("level(6, 5.0)", () -> board.level(6, 5.0));
        Due.is("rows of README's example", told::size, next);
    }

    private static void eachCallIsTold(String readme) {
        for (String call : new String[] {
            "level(g, v)", "wind(g, v)", "out(g, what)", "clear(g)", "mark(g, mark, v)", "gale(g, v)", "lift(g, mark)",
            "probe(v)", "probeWind(v)", "probeOut(what)", "run(g, what, relation, back)", "count(g, what, relation, not)",
            "holds(g, h, what, relation)", "pick(g, h, what, relation)", "stand(g)", "order(k)", "highest(g)", "calmest(g)",
            "same(g, h)", "move(open)", "size(g, what)",
        }) {
            Due.is("README tells of " + call, () -> readme.contains("`" + call + "`"), true);
        }
        for (String exception : new String[] {
            Due.ARGUMENT, Due.STATE, Due.UNSUPPORTED, Due.ARITHMETIC, Due.NO_ELEMENT,
        }) {
            Due.is("README tells of " + exception, () -> readme.contains("| `" + exception.replace("throws.", "") + "` |"), true);
        }
    }
}
