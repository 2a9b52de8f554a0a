/** Promise 9: steps. */
public final class StepsTest {
    public static void main(String[] args) {
        Check.sentence("steps: A kind's steps in the plan", StepsTest::tellsStepsOfEachKind);
        Check.sentence("steps: Index: no such kind", StepsTest::refusesNoSuchKind);
        Check.sentence("steps: turn: there is no plan", StepsTest::refusesWithoutAPlan);
        Check.end();
    }

    private static void tellsStepsOfEachKind() {
        AlloyPlans x = new AlloyPlans();
        x.heat(100);
        for (int kind = 0; kind < 4; kind++) {
            x.kind(1, 1, 3 * kind);
            x.holds(kind, kind, 10_000, 10_000);
            x.aim(kind, 70 * kind, 100_000);
        }
        Check.gives("run", 0, () -> x.run(0));
        int[] due = {0, 1, 2, 3};
        for (int i = 0; i < 4; i++) {
            int kind = i;
            Check.gives("steps of " + kind, due[kind], () -> x.steps(kind));
        }
        x.aim(1, 0, 0);
        x.aim(2, 0, 0);
        x.run(0);
        Check.gives("steps told anew", 0, () -> x.steps(2));
    }

    private static void refusesNoSuchKind() {
        AlloyPlans x = Check.withPlan();
        for (int kind : new int[] {-1, 1, 2, 3, 4}) {
            Check.refuses("steps of " + kind, Check.INDEX, () -> x.steps(kind));
        }
        for (int kind : Check.FAR_OUT) {
            Check.refuses("steps of " + kind, Check.INDEX, () -> x.steps(kind));
        }
        for (int kind = 1; kind < 4; kind++) {
            x.kind(1, 1, 1);
        }
        x.run(1000);
        Check.gives("the last of four", 0, () -> x.steps(3));
        Check.refuses("behind the last of four", Check.INDEX, () -> x.steps(4));
    }

    private static void refusesWithoutAPlan() {
        AlloyPlans x = Check.withPlan();
        x.aim(3, 0, 0);
        Check.refuses("told", Check.TURN, () -> x.steps(0));
        x.run(0);
        Check.refuses("not found", Check.TURN, () -> x.steps(0));
        x.run(1000);
        Check.gives("found", 2, () -> x.steps(0));
        x.add();
        Check.refuses("added", Check.TURN, () -> x.steps(0));
    }
}
