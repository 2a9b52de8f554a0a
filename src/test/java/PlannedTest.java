/** Promise 10: planned. */
public final class PlannedTest {
    public static void main(String[] args) {
        Check.sentence("planned: what 0 cents, 1 kilos added, 2 kinds, 3 cooling", PlannedTest::sumsOverKinds);
        Check.sentence("planned: .. of no step", PlannedTest::sumsNothing);
        Check.sentence("planned: Index: no such what", PlannedTest::refusesNoSuchWhat);
        Check.sentence("planned: turn: there is no plan", PlannedTest::refusesWithoutAPlan);
        Check.end();
    }

    private static void sumsOverKinds() {
        AlloyPlans x = new AlloyPlans();
        x.heat(500);
        int[][] kinds = {{17, 3, 900, 0}, {14, 4, 850, 1}, {11, 5, 800, 2}, {8, 6, 750, 3}};
        for (int kind = 0; kind < 4; kind++) {
            x.kind(kinds[kind][0], kinds[kind][1], 12);
            x.holds(kind, kind, 40_000, 45_000 + 1_000 * kind);
            x.yields(kind, kinds[kind][2], kinds[kind][3]);
            x.aim(kind, 200 + 100 * kind, 900 + 100 * kind);
        }
        Check.gives("run", 0, () -> x.run(64));
        has(x, 83, 33, 4, 64);
        x.aim(0, 0, 100_000);
        x.aim(1, 0, 100_000);
        x.run(64);
        has(x, 38, 22, 2, 56);
    }

    private static void sumsNothing() {
        AlloyPlans x = new AlloyPlans();
        x.run(0);
        has(x, 0, 0, 0, 0);
        AlloyPlans y = Check.withPlan();
        y.aim(0, 0, 100_000);
        y.run(1000);
        has(y, 0, 0, 0, 0);
    }

    private static void has(AlloyPlans x, int... due) {
        for (int i = 0; i < 4; i++) {
            int what = i;
            Check.gives("planned " + what, due[what], () -> x.planned(what));
        }
    }

    private static void refusesNoSuchWhat() {
        AlloyPlans x = Check.withPlan();
        for (int what : new int[] {-1, 4, 5}) {
            Check.refuses("planned " + what, Check.INDEX, () -> x.planned(what));
        }
        for (int what : Check.FAR_OUT) {
            Check.refuses("planned " + what, Check.INDEX, () -> x.planned(what));
        }
    }

    private static void refusesWithoutAPlan() {
        AlloyPlans x = Check.withPlan();
        x.present(3, 0, 0);
        for (int i = 0; i < 4; i++) {
            int what = i;
            Check.refuses("planned " + what, Check.TURN, () -> x.planned(what));
        }
    }
}
