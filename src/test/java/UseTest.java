import java.io.IOException;
import java.nio.file.Files;
import java.nio.file.Path;
import java.util.ArrayList;
import java.util.List;

/** README.md's example: the calls it shows, in its order, answer what stands behind them there. */
public final class UseTest {
    private final List<String> shown;
    private final AlloyPlans plans = new AlloyPlans();
    private int at = 0;

    private UseTest(List<String> shown) {
        this.shown = shown;
    }

    public static void main(String[] args) throws IOException {
        Path source = Path.of(args.length > 0 ? args[0] : "src/main/java/AlloyPlans.java").toAbsolutePath();
        UseTest test = new UseTest(exampleOf(source.resolveSibling("../../../README.md").normalize()));
        Check.sentence("README.md says how to use the class", test::play);
        Check.end();
    }

    private static List<String> exampleOf(Path readme) throws IOException {
        List<String> lines = new ArrayList<>();
        boolean isExample = false;
        for (String line : Files.readAllLines(readme)) {
            if (isExample && line.equals("```")) {
                return lines;
            }
            if (isExample) {
                lines.add(line);
            }
            isExample = isExample || line.equals("```java");
        }
        return lines;
    }

    private void play() {
        tells("AlloyPlans plans = new AlloyPlans();", () -> { });
        tells("plans.heat(100);", () -> plans.heat(100));
        tells("plans.present(0, 100, 200);", () -> plans.present(0, 100, 200));
        tells("plans.aim(0, 1000, 3000);", () -> plans.aim(0, 1000, 3000));
        tells("int kind = plans.kind(10, 2, 5);", () -> Check.gives("kind", 0, () -> plans.kind(10, 2, 5)));
        tells("plans.holds(kind, 0, 50000, 60000);", () -> plans.holds(0, 0, 50000, 60000));
        tells("plans.yields(kind, 500, 3);", () -> plans.yields(0, 500, 3));
        answers("plans.run(1000);", () -> plans.run(1000));
        answers("plans.steps(kind);", () -> plans.steps(0));
        answers("plans.planned(0);", () -> plans.planned(0));
        answers("plans.planned(1);", () -> plans.planned(1));
        answers("plans.planned(2);", () -> plans.planned(2));
        answers("plans.planned(3);", () -> plans.planned(3));
        answers("plans.order(0);", () -> plans.order(0));
        answers("plans.order(1);", () -> plans.order(1));
        answers("plans.after(0, 0, 0);", () -> plans.after(0, 0, 0));
        answers("plans.after(0, 0, 1);", () -> plans.after(0, 0, 1));
        answers("plans.add();", plans::add);
        answers("plans.heatAt(0);", () -> plans.heatAt(0));
        answers("plans.heatAt(1);", () -> plans.heatAt(1));
        answers("plans.heatAt(2);", () -> plans.heatAt(2));
        answers("plans.heatAt(9);", () -> plans.heatAt(9));
        tells("plans.present(0, 900, 1000);", () -> plans.present(0, 900, 1000));
        answers("plans.run(1000);", () -> plans.run(1000));
        answers("plans.add();", plans::add);
        tells("plans.aim(1, 500, 100000);", () -> plans.aim(1, 500, 100000));
        answers("plans.run(1000);", () -> plans.run(1000));
        Check.gives("lines of the example", at, shown::size);
    }

    private void tells(String call, Check.Deed deed) {
        Check.same("line " + at + " of the example", call, nextLine().split(" *//", 2)[0].stripTrailing());
        Check.same(call, "done", Check.outcome(deed));
    }

    /** The number that the comment begins with is the answer. */
    private void answers(String call, Check.Call answer) {
        String[] parts = nextLine().split(" *// ", 2);
        Check.same("line " + at + " of the example", call, parts[0]);
        Check.same(call, parts.length > 1 ? parts[1].split("[^-0-9]", 2)[0] : "no answer", Check.outcome(answer));
    }

    private String nextLine() {
        String line = at < shown.size() ? shown.get(at) : "";
        at++;
        return line;
    }
}
