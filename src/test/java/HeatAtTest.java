/** Promise 14: heatAt. */
public final class HeatAtTest {
    public static void main(String[] args) {
        Check.sentence("heatAt: what 0 its kilos, 1 + 2 e, 2 + 2 e the present low and high of element e",
                HeatAtTest::tellsTheHeat);
        Check.sentence("heatAt: 9 all cents of what was added", HeatAtTest::tellsCentsAdded);
        Check.sentence("heatAt: of what was added: not of what is planned", HeatAtTest::leavesOutWhatIsPlanned);
        Check.sentence("heatAt: all cents: the most that 512 calls add", HeatAtTest::sumsManyCents);
        Check.sentence("heatAt: Index: no such what", HeatAtTest::refusesNoSuchWhat);
        Check.end();
    }

    private static void tellsTheHeat() {
        AlloyPlans x = new AlloyPlans();
        x.heat(77);
        for (int element = 0; element < 4; element++) {
            x.present(element, 1000 * element + 1, 1000 * element + 2);
        }
        long[] due = {77, 1, 2, 1001, 1002, 2001, 2002, 3001, 3002, 0};
        for (int i = 0; i < due.length; i++) {
            int what = i;
            Check.gives("heatAt " + what, due[what], () -> x.heatAt(what));
        }
    }

    private static void tellsCentsAdded() {
        AlloyPlans x = Check.withPlan();
        Check.gives("none yet", 0, () -> x.heatAt(9));
        x.add();
        Check.gives("of the first", 20, () -> x.heatAt(9));
        x.present(0, 900, 900);
        x.run(1000);
        x.add();
        Check.gives("of both", 30, () -> x.heatAt(9));
        x.run(1000);
        x.add();
        Check.gives("of an empty one too", 30, () -> x.heatAt(9));
    }

    private static void leavesOutWhatIsPlanned() {
        AlloyPlans x = Check.withPlan();
        Check.gives("a plan's kilos are not in the heat", 100, () -> x.heatAt(0));
        Check.gives("a plan's low end is not present", 100, () -> x.heatAt(1));
        Check.gives("a plan's high end is not present", 200, () -> x.heatAt(2));
        Check.gives("a plan's cents are not added", 0, () -> x.heatAt(9));
    }

    /** Four calls for each adding of all 48 steps, that thin element 0 to just what is asked. */
    private static void sumsManyCents() {
        AlloyPlans x = new AlloyPlans();
        for (int kind = 0; kind < 4; kind++) {
            x.kind(100_000, 1, 12);
        }
        int kilos = 1;
        int addings = 0;
        for (int calls = 4; calls + 4 < 512; calls += 4) {
            x.present(0, 100_000, 100_000);
            x.aim(0, 0, 100_000 * kilos / (kilos + 48) + 1);
            Check.gives("run", 0, () -> x.run(0));
            x.add();
            kilos += 48;
            addings++;
        }
        Check.gives("all cents", addings * 4_800_000L, () -> x.heatAt(9));
    }

    private static void refusesNoSuchWhat() {
        AlloyPlans x = Check.withPlan();
        for (int what : new int[] {-1, 10, 11}) {
            Check.refuses("heatAt " + what, Check.INDEX, () -> x.heatAt(what));
        }
        for (int what : Check.FAR_OUT) {
            Check.refuses("heatAt " + what, Check.INDEX, () -> x.heatAt(what));
        }
        Check.gives("the first", 100, () -> x.heatAt(0));
        Check.gives("the last", 0, () -> x.heatAt(9));
    }
}
