/** Promise 7: yields. */
public final class YieldsTest {
    public static void main(String[] args) {
        Check.sentence("yields: A kind's yield and cooling", YieldsTest::tellsYieldAndCooling);
        Check.sentence("yields: A kind's: not another's", YieldsTest::tellsEachKindApart);
        Check.sentence("yields: Index: no such kind", YieldsTest::refusesNoSuchKind);
        Check.sentence("yields: range: they are not so (the yield)", YieldsTest::refusesYields);
        Check.sentence("yields: range: they are not so (the cooling)", YieldsTest::refusesCooling);
        Check.end();
    }

    private static void tellsYieldAndCooling() {
        AlloyPlans x = new AlloyPlans();
        x.kind(1, 1, 1);
        x.holds(0, 0, 1000, 3000);
        x.aim(0, 1, 100_000);
        x.yields(0, 250, 7);
        Check.gives("a quarter stays", 0, () -> x.run(7));
        Check.gives("low", 125, () -> x.after(0, 0, 0));
        Check.gives("high", 375, () -> x.after(0, 1, 0));
        Check.gives("cooling", 7, () -> x.planned(3));
        Check.gives("too little heat left", 1, () -> x.run(6));
        x.yields(0, 1, 1000);
        Check.gives("a thousandth stays: half a thousandth of a percent", 1, () -> x.run(1000));
        x.yields(0, 2, 1000);
        Check.gives("two thousandths stay", 0, () -> x.run(1000));
        Check.gives("most cooling", 1000, () -> x.planned(3));
        x.yields(0, 0, 0);
        Check.gives("nothing stays", 1, () -> x.run(1000));
        x.yields(0, 1000, 0);
        Check.gives("all of it stays", 0, () -> x.run(0));
        Check.gives("low of all", 500, () -> x.after(0, 0, 0));
    }

    private static void tellsEachKindApart() {
        AlloyPlans x = new AlloyPlans();
        for (int kind = 0; kind < 4; kind++) {
            x.kind(1, 1, 1);
            x.holds(kind, kind, 1000, 1000);
            x.aim(kind, 1, 100_000);
        }
        for (int kind = 0; kind < 4; kind++) {
            x.yields(kind, 100 + 5 * kind, 1 + kind);
        }
        Check.gives("run", 0, () -> x.run(10));
        Check.gives("cooling", 10, () -> x.planned(3));
        for (int i = 0; i < 4; i++) {
            int element = i;
            Check.gives("a fifth of what stays", 20 + element, () -> x.after(element, 0, 0));
        }
    }

    private static void refusesNoSuchKind() {
        AlloyPlans x = Check.withPlan();
        for (int kind : new int[] {-1, 1, 3, 4}) {
            Check.refuses("yields of kind " + kind, Check.INDEX, () -> x.yields(kind, 0, 0));
        }
        for (int kind : Check.FAR_OUT) {
            Check.refuses("yields of kind " + kind, Check.INDEX, () -> x.yields(kind, 0, 0));
        }
        x.kind(1, 1, 1);
        Check.same("kind 1 when it is there", "done", Check.outcome(() -> x.yields(1, 0, 0)));
        Check.refuses("kind 2 still not", Check.INDEX, () -> x.yields(2, 0, 0));
    }

    private static void refusesYields() {
        AlloyPlans x = Check.withPlan();
        for (int number : new int[] {-1, 1001}) {
            Check.refuses("yield " + number, Check.RANGE, () -> x.yields(0, number, 0));
        }
        for (int number : Check.FAR_OUT) {
            Check.refuses("yield " + number, Check.RANGE, () -> x.yields(0, number, 0));
        }
        x.run(1000);
        Check.gives("a refused yield is not told", 2, () -> x.steps(0));
        Check.gives("its cooling is not told", 12, () -> x.planned(3));
    }

    private static void refusesCooling() {
        AlloyPlans x = Check.withPlan();
        for (int number : new int[] {-1, 1001}) {
            Check.refuses("cooling " + number, Check.RANGE, () -> x.yields(0, 0, number));
        }
        for (int number : Check.FAR_OUT) {
            Check.refuses("cooling " + number, Check.RANGE, () -> x.yields(0, 0, number));
        }
        x.run(1000);
        Check.gives("a refused cooling is not told", 12, () -> x.planned(3));
        Check.gives("its yield is not told", 2, () -> x.steps(0));
    }
}
