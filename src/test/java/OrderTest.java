/** Promise 11: order. */
public final class OrderTest {
    public static void main(String[] args) {
        int[][] cooling = {{0, 1, 2, 3}, {3, 2, 1, 0}, {5, 5, 5, 5}, {0, 9, 0, 9}, {1, 3, 3, 2}, {7, 0, 7, 7}};
        int[][] due = {{3, 2, 1, 0}, {0, 1, 2, 3}, {0, 1, 2, 3}, {1, 3, 0, 2}, {1, 2, 3, 0}, {0, 2, 3, 1}};
        for (int i = 0; i < cooling.length; i++) {
            ordersAll(cooling[i], due[i]);
        }
        leavesOutKindsWithoutSteps();
        coolsForEachKiloNotInAll();
        refuses();
        Check.end();
    }

    private static AlloyPlans ofFour(int[] cooling) {
        AlloyPlans x = new AlloyPlans();
        for (int kind = 0; kind < 4; kind++) {
            x.kind(1, 1, 1);
            x.holds(kind, kind, 1000, 1000);
            x.yields(kind, 1000, cooling[kind]);
            x.aim(kind, 1, 100_000);
        }
        return x;
    }

    private static void has(AlloyPlans x, int... due) {
        for (int i = 0; i < 6; i++) {
            int k = i;
            Check.gives("order " + k, k < due.length ? due[k] : -1, () -> x.order(k));
        }
        Check.gives("order far behind", -1, () -> x.order(Integer.MAX_VALUE));
    }

    private static void ordersAll(int[] cooling, int[] due) {
        AlloyPlans x = ofFour(cooling);
        Check.gives("run", 0, () -> x.run(1000));
        has(x, due);
    }

    private static void leavesOutKindsWithoutSteps() {
        AlloyPlans x = ofFour(new int[] {1, 9, 5, 5});
        x.aim(1, 0, 0);
        x.run(1000);
        has(x, 2, 3, 0);
        x.aim(0, 0, 0);
        x.aim(2, 0, 0);
        x.run(1000);
        has(x, 3);
        x.aim(3, 0, 0);
        x.run(1000);
        has(x);
    }

    private static void coolsForEachKiloNotInAll() {
        AlloyPlans x = new AlloyPlans();
        x.kind(1, 10, 1);
        x.kind(1, 1, 1);
        x.holds(0, 0, 1000, 1000);
        x.holds(1, 1, 1000, 1000);
        x.yields(0, 1000, 2);
        x.yields(1, 1000, 3);
        x.aim(0, 1, 100_000);
        x.aim(1, 1, 100_000);
        x.run(1000);
        has(x, 1, 0);
    }

    private static void refuses() {
        AlloyPlans x = Check.withPlan();
        int[] below = {-1, -2, Integer.MIN_VALUE};
        for (int k : below) {
            Check.refuses("order " + k, Check.INDEX, () -> x.order(k));
        }
        x.aim(3, 0, 0);
        for (int k : below) {
            Check.refuses("index comes before turn " + k, Check.INDEX, () -> x.order(k));
        }
        for (int k : new int[] {0, 1, 4, Integer.MAX_VALUE}) {
            Check.refuses("no plan " + k, Check.TURN, () -> x.order(k));
        }
    }
}
