/** Promise 7: yields. */
public final class YieldsTest {
    public static void main(String[] args) {
        tellsYieldAndCooling();
        refusesNoSuchKind();
        refusesWhatIsOutOfRange();
        forgetsThePlanUnlessRefused();
        Check.end();
    }

    private static void tellsYieldAndCooling() {
        AlloyPlans x = new AlloyPlans();
        x.kind(1, 1, 1);
        x.holds(0, 0, 1000, 3000);
        x.aim(0, 1, 100_000);
        x.yields(0, 250, 7);
        Check.gives("a quarter stays", 0, () -> x.run(7));
        Check.gives("low", 125, () -> x.after(0, 0, 0));
        Check.gives("high", 375, () -> x.after(0, 1, 0));
        Check.gives("cooling", 7, () -> x.planned(3));
        Check.gives("too little heat left", 1, () -> x.run(6));
        x.yields(0, 1, 1000);
        Check.gives("a thousandth stays: half a thousandth of a percent", 1, () -> x.run(1000));
        x.yields(0, 2, 1000);
        Check.gives("two thousandths stay", 0, () -> x.run(1000));
        Check.gives("most cooling", 1000, () -> x.planned(3));
        x.yields(0, 0, 0);
        Check.gives("nothing stays", 1, () -> x.run(1000));
        x.yields(0, 1000, 0);
        Check.gives("all of it stays", 0, () -> x.run(0));
        Check.gives("low of all", 500, () -> x.after(0, 0, 0));
    }

    private static void refusesNoSuchKind() {
        AlloyPlans x = Check.withPlan();
        for (int kind : new int[] {1, 3, 4}) {
            Check.refuses("yields of kind " + kind, Check.INDEX, () -> x.yields(kind, 0, 0));
        }
        for (int kind : Check.FAR_OUT) {
            Check.refuses("yields of kind " + kind, Check.INDEX, () -> x.yields(kind, 0, 0));
            Check.refuses("index comes before range", Check.INDEX, () -> x.yields(kind, 1001, 1001));
        }
    }

    private static void refusesWhatIsOutOfRange() {
        AlloyPlans x = Check.withPlan();
        for (int number : new int[] {-1, 1001}) {
            Check.refuses("yield " + number, Check.RANGE, () -> x.yields(0, number, 0));
            Check.refuses("cooling " + number, Check.RANGE, () -> x.yields(0, 0, number));
        }
        for (int number : Check.FAR_OUT) {
            Check.refuses("yield " + number, Check.RANGE, () -> x.yields(0, number, 0));
            Check.refuses("cooling " + number, Check.RANGE, () -> x.yields(0, 0, number));
        }
        x.run(1000);
        Check.gives("a refused yield is not told", 2, () -> x.steps(0));
        Check.gives("a refused cooling is not told", 12, () -> x.planned(3));
    }

    private static void forgetsThePlanUnlessRefused() {
        AlloyPlans x = Check.withPlan();
        Check.refuses("yields", Check.RANGE, () -> x.yields(0, 1001, 0));
        Check.refuses("yields", Check.INDEX, () -> x.yields(1, 0, 0));
        Check.planStands("behind refused yields", x);
        x.yields(0, 500, 3);
        Check.planIsForgotten("behind the same yield again", x);
    }
}
