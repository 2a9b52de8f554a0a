/** Promise 2: heat. */
public final class HeatTest {
    public static void main(String[] args) {
        tellsKilos();
        forgetsThePlanUnlessRefused();
        refusesBehindAnAdding();
        Check.end();
    }

    private static void tellsKilos() {
        AlloyPlans x = new AlloyPlans();
        for (int kilos : new int[] {1, 2, 65_535, 65_536, 1}) {
            x.heat(kilos);
            Check.gives("kilos told " + kilos, kilos, () -> x.heatAt(0));
        }
        x.heat(7);
        for (int kilos : new int[] {0, 65_537, -7}) {
            Check.refuses("heat " + kilos, Check.RANGE, () -> x.heat(kilos));
        }
        for (int kilos : Check.FAR_OUT) {
            Check.refuses("heat " + kilos, Check.RANGE, () -> x.heat(kilos));
        }
        Check.gives("kilos behind refusals", 7, () -> x.heatAt(0));
    }

    private static void forgetsThePlanUnlessRefused() {
        AlloyPlans x = Check.withPlan();
        Check.refuses("heat(0)", Check.RANGE, () -> x.heat(0));
        Check.planStands("behind a refused heat", x);
        x.heat(100);
        Check.planIsForgotten("behind the same heat told again", x);
    }

    private static void refusesBehindAnAdding() {
        AlloyPlans x = new AlloyPlans();
        x.run(0);
        x.heat(5);
        x.run(0);
        Check.gives("an empty plan added", 0, x::add);
        Check.refuses("heat behind an adding", Check.TURN, () -> x.heat(5));
        Check.refuses("turn comes before range, below", Check.TURN, () -> x.heat(0));
        Check.refuses("turn comes before range, above", Check.TURN, () -> x.heat(65_537));
        Check.gives("kilos as they were", 5, () -> x.heatAt(0));
        x.run(0);
        Check.refuses("heat with a plan behind an adding", Check.TURN, () -> x.heat(6));
        Check.planStands("behind a heat refused by turn", x);

        AlloyPlans y = new AlloyPlans();
        y.heat(65_536);
        y.kind(0, 1, 1);
        y.holds(0, 0, 100, 100);
        y.yields(0, 1000, 0);
        y.present(0, 0, 0);
        y.aim(0, 0, 0);
        Check.gives("nothing need be added", 0, () -> y.run(0));
        y.heat(65_535);
        Check.gives("a heat told anew before an adding", 65_535, () -> y.heatAt(0));
    }
}
