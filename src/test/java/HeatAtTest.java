/** Promise 14: heatAt. */
public final class HeatAtTest {
    public static void main(String[] args) {
        tellsTheHeat();
        tellsCentsAddedNotPlanned();
        sumsManyCents();
        refuses();
        Check.end();
    }

    private static void tellsTheHeat() {
        AlloyPlans x = new AlloyPlans();
        x.heat(77);
        for (int element = 0; element < 4; element++) {
            x.present(element, 1000 * element + 1, 1000 * element + 2);
        }
        long[] due = {77, 1, 2, 1001, 1002, 2001, 2002, 3001, 3002, 0};
        for (int i = 0; i < due.length; i++) {
            int what = i;
            Check.gives("heatAt " + what, due[what], () -> x.heatAt(what));
        }
    }

    private static void tellsCentsAddedNotPlanned() {
        AlloyPlans x = Check.withPlan();
        Check.gives("a plan's kilos are not in the heat", 100, () -> x.heatAt(0));
        Check.gives("a plan's low end is not present", 100, () -> x.heatAt(1));
        Check.gives("a plan's cents are not added", 0, () -> x.heatAt(9));
        x.add();
        Check.gives("added kilos", 104, () -> x.heatAt(0));
        Check.gives("added cents", 20, () -> x.heatAt(9));
    }

    /** The dearest plan, some eighty times. */
    private static void sumsManyCents() {
        AlloyPlans x = new AlloyPlans();
        for (int kind = 0; kind < 4; kind++) {
            x.kind(100_000, 1, 12);
            x.holds(kind, kind, 100_000, 100_000);
            x.aim(kind, 24_489, 100_000);
        }
        int addings = 0;
        for (int calls = 12; calls + 7 <= 500; calls += 6) {
            for (int element = 0; element < 4; element++) {
                x.present(element, 0, 0);
                x.aim(element, 1200_000 / ((int) x.heatAt(0) + 48), 100_000);
            }
            Check.gives("run", 0, () -> x.run(0));
            Check.gives("cents of it", 4_800_000, () -> x.planned(0));
            x.add();
            addings++;
        }
        Check.gives("all cents", addings * 4_800_000L, () -> x.heatAt(9));
    }

    private static void refuses() {
        AlloyPlans x = Check.withPlan();
        for (int what : new int[] {-1, 10, 11}) {
            Check.refuses("heatAt " + what, Check.INDEX, () -> x.heatAt(what));
        }
        for (int what : Check.FAR_OUT) {
            Check.refuses("heatAt " + what, Check.INDEX, () -> x.heatAt(what));
        }
        Check.planStands("asking forgets nothing", x);
    }
}
