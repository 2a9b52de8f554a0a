/** Promise 2: heat. */
public final class HeatTest {
    public static void main(String[] args) {
        Check.sentence("heat: The heat's kilos", HeatTest::tellsKilos);
        Check.sentence("heat: Turn: something was added", HeatTest::refusesBehindAnAdding);
        Check.sentence("heat: Turn: something was added, though no kilo", HeatTest::refusesBehindAnEmptyAdding);
        Check.sentence("heat: Turn: .. not when an adding was refused", HeatTest::takesBehindARefusedAdding);
        Check.sentence("heat: range: they are not so", HeatTest::refusesWhatIsOutOfRange);
        Check.end();
    }

    private static void tellsKilos() {
        AlloyPlans x = new AlloyPlans();
        for (int kilos : new int[] {1, 2, 65_535, 65_536, 1}) {
            x.heat(kilos);
            Check.gives("kilos told " + kilos, kilos, () -> x.heatAt(0));
        }
        x.present(0, 3, 4);
        x.heat(9);
        Check.gives("low stays", 3, () -> x.heatAt(1));
        Check.gives("high stays", 4, () -> x.heatAt(2));
        AlloyPlans y = Check.withPlan();
        y.heat(200);
        Check.gives("run", 0, () -> y.run(1000));
        Check.gives("twice the heat, twice the steps", 4, () -> y.steps(0));
    }

    private static void refusesBehindAnAdding() {
        AlloyPlans x = Check.withPlan();
        x.add();
        Check.refuses("the same", Check.TURN, () -> x.heat(104));
        Check.refuses("another", Check.TURN, () -> x.heat(5));
        Check.gives("kilos as they were", 104, () -> x.heatAt(0));
        x.run(1000);
        Check.refuses("with a plan", Check.TURN, () -> x.heat(5));
        x.add();
        Check.refuses("behind a further one", Check.TURN, () -> x.heat(5));
    }

    private static void refusesBehindAnEmptyAdding() {
        AlloyPlans x = new AlloyPlans();
        x.heat(5);
        x.run(0);
        Check.gives("an empty plan added", 0, x::add);
        Check.refuses("heat", Check.TURN, () -> x.heat(5));
        Check.gives("kilos as they were", 5, () -> x.heatAt(0));
    }

    private static void takesBehindARefusedAdding() {
        AlloyPlans x = new AlloyPlans();
        Check.refuses("nothing to add", Check.TURN, x::add);
        x.heat(65_536);
        Check.gives("told", 65_536, () -> x.heatAt(0));
        x.kind(3, 1, 1);
        x.holds(0, 0, 100_000, 100_000);
        x.aim(0, 1, 100_000);
        x.run(0);
        Check.refuses("no room", Check.MEANING, x::add);
        x.heat(65_535);
        Check.gives("told again", 65_535, () -> x.heatAt(0));
    }

    private static void refusesWhatIsOutOfRange() {
        AlloyPlans x = new AlloyPlans();
        x.heat(7);
        for (int kilos : new int[] {0, 65_537, -7, 131_072}) {
            Check.refuses("heat " + kilos, Check.RANGE, () -> x.heat(kilos));
        }
        for (int kilos : Check.FAR_OUT) {
            Check.refuses("heat " + kilos, Check.RANGE, () -> x.heat(kilos));
        }
        Check.gives("kilos behind refusals", 7, () -> x.heatAt(0));
    }
}
