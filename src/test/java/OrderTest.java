/** Promise 11: order. */
public final class OrderTest {
    public static void main(String[] args) {
        Check.sentence("order: The k-th kind to add (0 first)", OrderTest::tellsTheFirst);
        Check.sentence("order: kinds of the plan", OrderTest::leavesOutKindsWithoutSteps);
        Check.sentence("order: what they cool for each kilo", OrderTest::coolsForEachKiloNotInAll);
        Check.sentence("order: -1 when there are not so many", OrderTest::tellsThatThereAreNotSoMany);
        Check.sentence("order: Index: k is below 0", OrderTest::refusesBelow);
        Check.sentence("order: turn: there is no plan", OrderTest::refusesWithoutAPlan);
        Check.end();
    }

    private static AlloyPlans ofFour(int... cooling) {
        AlloyPlans x = new AlloyPlans();
        for (int kind = 0; kind < 4; kind++) {
            x.kind(1, 1, 1);
            x.holds(kind, kind, 1000, 1000);
            x.yields(kind, 1000, cooling[kind]);
            x.aim(kind, 1, 100_000);
        }
        return x;
    }

    private static void has(AlloyPlans x, int... due) {
        Check.gives("run", 0, () -> x.run(1000));
        for (int i = 0; i < due.length; i++) {
            int k = i;
            Check.gives("order " + k, due[k], () -> x.order(k));
        }
        Check.gives("behind the last", -1, () -> x.order(due.length));
    }

    private static void tellsTheFirst() {
        has(ofFour(4, 8, 6, 2), 1, 2, 0, 3);
        has(ofFour(0, 0, 0, 0), 0, 1, 2, 3);
        has(ofFour(0, 0, 0, 1), 3, 0, 1, 2);
    }

    private static void leavesOutKindsWithoutSteps() {
        AlloyPlans x = ofFour(1, 9, 5, 5);
        x.aim(1, 0, 0);
        has(x, 2, 3, 0);
        x.aim(0, 0, 0);
        x.aim(2, 0, 0);
        has(x, 3);
        x.aim(3, 0, 0);
        has(x);
    }

    private static void coolsForEachKiloNotInAll() {
        AlloyPlans x = new AlloyPlans();
        x.kind(1, 10, 1);
        x.kind(1, 1, 1);
        x.holds(0, 0, 1000, 1000);
        x.holds(1, 1, 1000, 1000);
        x.yields(0, 1000, 2);
        x.yields(1, 1000, 3);
        x.aim(0, 1, 100_000);
        x.aim(1, 1, 100_000);
        has(x, 1, 0);
    }

    private static void tellsThatThereAreNotSoMany() {
        AlloyPlans four = ofFour(1, 2, 3, 4);
        has(four, 3, 2, 1, 0);
        Check.gives("far behind four", -1, () -> four.order(Integer.MAX_VALUE));
        AlloyPlans one = Check.withPlan();
        has(one, 0);
        Check.gives("far behind one", -1, () -> one.order(Integer.MAX_VALUE));
        AlloyPlans none = new AlloyPlans();
        has(none);
        Check.gives("far behind none", -1, () -> none.order(Integer.MAX_VALUE));
    }

    private static void refusesBelow() {
        AlloyPlans x = Check.withPlan();
        for (int k : new int[] {-1, -2, -4, Integer.MIN_VALUE, Integer.MIN_VALUE + 1}) {
            Check.refuses("order " + k, Check.INDEX, () -> x.order(k));
        }
    }

    private static void refusesWithoutAPlan() {
        AlloyPlans x = Check.withPlan();
        x.aim(3, 0, 0);
        for (int k : new int[] {0, 1, 4, Integer.MAX_VALUE}) {
            Check.refuses("order " + k, Check.TURN, () -> x.order(k));
        }
    }
}
