/** Promise 10: planned. */
public final class PlannedTest {
    public static void main(String[] args) {
        sumsOverKinds();
        refuses();
        Check.end();
    }

    private static void sumsOverKinds() {
        AlloyPlans x = new AlloyPlans();
        x.heat(500);
        int[][] kinds = {{17, 3, 900, 0}, {14, 4, 850, 1}, {11, 5, 800, 2}, {8, 6, 750, 3}};
        for (int kind = 0; kind < 4; kind++) {
            x.kind(kinds[kind][0], kinds[kind][1], 12);
            x.holds(kind, kind, 40_000, 45_000 + 1_000 * kind);
            x.yields(kind, kinds[kind][2], kinds[kind][3]);
            x.aim(kind, 200 + 100 * kind, 900 + 100 * kind);
        }
        Check.gives("run", 0, () -> x.run(64));
        int[] due = {83, 33, 4, 64};
        has(x, due);
        x.aim(0, 0, 100_000);
        x.aim(1, 0, 100_000);
        x.run(64);
        has(x, new int[] {38, 22, 2, 56});
    }

    private static void has(AlloyPlans x, int[] due) {
        for (int i = 0; i < 4; i++) {
            int what = i;
            Check.gives("planned " + what, due[what], () -> x.planned(what));
        }
    }

    private static void refuses() {
        AlloyPlans x = Check.withPlan();
        refusesIndexes(x);
        x.present(3, 0, 0);
        for (int i = 0; i < 4; i++) {
            int what = i;
            Check.refuses("no plan", Check.TURN, () -> x.planned(what));
        }
        refusesIndexes(x);
    }

    private static void refusesIndexes(AlloyPlans x) {
        Check.refuses("planned 4", Check.INDEX, () -> x.planned(4));
        for (int what : Check.FAR_OUT) {
            Check.refuses("planned " + what, Check.INDEX, () -> x.planned(what));
        }
    }
}
