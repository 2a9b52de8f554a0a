/** Promise 8: run. Which plan it is, and what is named, is asked by TermsPlanTest. */
public final class RunTest {
    public static void main(String[] args) {
        Check.sentence("run: Plans: 0", RunTest::plans);
        Check.sentence("run: or 1 and the element that is named", RunTest::names);
        Check.sentence("run: (there is no plan then)", RunTest::leavesNoPlan);
        Check.sentence("run: Range: the heat left is not 0 .. 100,000,000", RunTest::refusesWhatIsOutOfRange);
        Check.end();
    }

    private static void plans() {
        AlloyPlans x = Check.withPlan();
        Check.planStands("behind a run", x);
        Check.gives("again", 0, () -> x.run(1000));
        Check.gives("steps", 2, () -> x.steps(0));
        AlloyPlans empty = new AlloyPlans();
        Check.gives("of a new object", 0, () -> empty.run(0));
        Check.planStands("an empty one", empty);
        Check.gives("cents", 0, () -> empty.planned(0));
        Check.gives("low stays below", 0, () -> empty.after(3, 0, 0));
    }

    private static void names() {
        for (int element = 0; element < 4; element++) {
            AlloyPlans x = new AlloyPlans();
            x.aim(element, 1, 1);
            Check.gives("named " + element, 1 + element, () -> x.run(0));
            Check.gives("and again", 1 + element, () -> x.run(100_000_000));
        }
    }

    private static void leavesNoPlan() {
        AlloyPlans x = new AlloyPlans();
        x.kind(1, 1, 1);
        x.aim(2, 1, 1);
        Check.gives("run", 3, () -> x.run(0));
        Check.refuses("steps", Check.TURN, () -> x.steps(0));
        Check.refuses("planned", Check.TURN, () -> x.planned(0));
        Check.refuses("order", Check.TURN, () -> x.order(0));
        Check.refuses("after", Check.TURN, () -> x.after(0, 0, 0));
        Check.refuses("add", Check.TURN, x::add);
        AlloyPlans y = Check.withPlan();
        Check.gives("run behind a plan", 1, () -> y.run(0));
        Check.planIsForgotten("the one before", y);
    }

    private static void refusesWhatIsOutOfRange() {
        AlloyPlans x = new AlloyPlans();
        Check.gives("least heat left", 0, () -> x.run(0));
        Check.gives("most heat left", 0, () -> x.run(100_000_000));
        Check.refuses("below", Check.RANGE, () -> x.run(-1));
        Check.refuses("above", Check.RANGE, () -> x.run(100_000_001));
        for (int far : Check.FAR_OUT) {
            Check.refuses("run " + far, Check.RANGE, () -> x.run(far));
        }
    }
}
