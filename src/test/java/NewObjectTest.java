/** Promise 1: a new object. */
public final class NewObjectTest {
    public static void main(String[] args) {
        Check.sentence("A heat of one kilo", NewObjectTest::hasOneKilo);
        Check.sentence("no kinds", NewObjectTest::hasNoKind);
        Check.sentence("no plan", NewObjectTest::hasNoPlan);
        Check.sentence("A heat, no kinds, no plan: none of another object's", NewObjectTest::isApartFromOthers);
        Check.end();
    }

    private static void hasOneKilo() {
        AlloyPlans x = new AlloyPlans();
        Check.gives("kilos", 1, () -> x.heatAt(0));
        for (int i = 1; i < 10; i++) {
            int what = i;
            Check.gives("heatAt " + what, 0, () -> x.heatAt(what));
        }
    }

    private static void hasNoKind() {
        AlloyPlans x = new AlloyPlans();
        for (int i = 0; i < 4; i++) {
            int kind = i;
            Check.refuses("steps of " + kind, Check.INDEX, () -> x.steps(kind));
            Check.refuses("holds of " + kind, Check.INDEX, () -> x.holds(kind, 0, 0, 0));
            Check.refuses("yields of " + kind, Check.INDEX, () -> x.yields(kind, 0, 0));
        }
        x.run(0);
        Check.refuses("steps with a plan", Check.INDEX, () -> x.steps(0));
        Check.gives("the first kind's number", 0, () -> x.kind(0, 1, 0));
    }

    private static void hasNoPlan() {
        AlloyPlans x = new AlloyPlans();
        for (int i = 0; i < 4; i++) {
            int what = i;
            Check.refuses("planned " + what, Check.TURN, () -> x.planned(what));
            Check.refuses("order " + what, Check.TURN, () -> x.order(what));
        }
        for (int i = 0; i < 16; i++) {
            int place = i;
            Check.refuses("after", Check.TURN, () -> x.after(place / 4, place / 2 % 2, place % 2));
        }
        Check.refuses("add", Check.TURN, x::add);
    }

    private static void isApartFromOthers() {
        AlloyPlans one = Check.withPlan();
        AlloyPlans other = new AlloyPlans();
        Check.gives("another object's kilos", 1, () -> other.heatAt(0));
        Check.refuses("another object's kinds", Check.INDEX, () -> other.steps(0));
        Check.refuses("another object's plan", Check.TURN, () -> other.planned(0));
        other.kind(7, 7, 7);
        other.run(0);
        Check.gives("the first object's steps", 2, () -> one.steps(0));
        Check.gives("the first object's kilos", 100, () -> one.heatAt(0));
    }
}
