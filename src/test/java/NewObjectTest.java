/** Promise 1: a heat of one kilo, no kinds, no plan. */
public final class NewObjectTest {
    public static void main(String[] args) {
        AlloyPlans x = new AlloyPlans();
        Check.gives("kilos", 1, () -> x.heatAt(0));
        for (int i = 1; i < 10; i++) {
            int what = i;
            Check.gives("heatAt " + what, 0, () -> x.heatAt(what));
        }
        hasNoKind(x);
        hasNoPlan(x);
        hasWidestAims();
        isApartFromOthers();
        Check.end();
    }

    private static void hasNoKind(AlloyPlans x) {
        Check.refuses("steps(0)", Check.INDEX, () -> x.steps(0));
        Check.refuses("holds(0, ..)", Check.INDEX, () -> x.holds(0, 0, 0, 0));
        Check.refuses("yields(0, ..)", Check.INDEX, () -> x.yields(0, 0, 0));
    }

    private static void hasNoPlan(AlloyPlans x) {
        Check.refuses("planned(0)", Check.TURN, () -> x.planned(0));
        Check.refuses("order(0)", Check.TURN, () -> x.order(0));
        Check.refuses("after(0, 0, 0)", Check.TURN, () -> x.after(0, 0, 0));
        Check.refuses("add()", Check.TURN, x::add);
    }

    private static void hasWidestAims() {
        AlloyPlans x = new AlloyPlans();
        for (int element = 0; element < 4; element++) {
            x.present(element, 0, 100_000);
        }
        Check.gives("run with the widest present spans", 0, () -> x.run(0));
        Check.gives("the first kind's number", 0, () -> x.kind(0, 1, 0));
    }

    private static void isApartFromOthers() {
        AlloyPlans one = Check.withPlan();
        AlloyPlans other = new AlloyPlans();
        Check.gives("another object's kilos", 1, () -> other.heatAt(0));
        Check.refuses("another object's kinds", Check.INDEX, () -> other.steps(0));
        Check.gives("the first object's steps", 2, () -> one.steps(0));
    }
}
