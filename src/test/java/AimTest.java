/** Promise 4: aim. */
public final class AimTest {
    public static void main(String[] args) {
        AlloyPlans x = Check.withPlan();
        SpanChecks.check("aim", x, 1, x::aim);
        holdsAtBothEnds();
        asksOfEachElementApart();
        forgetsThePlan();
        Check.end();
    }

    private static void holdsAtBothEnds() {
        AlloyPlans x = new AlloyPlans();
        x.present(0, 400, 500);
        int[][] met = {{400, 500}, {0, 500}, {400, 100_000}, {0, 100_000}, {399, 501}};
        int[][] unmet = {{401, 500}, {400, 499}, {401, 499}, {500, 500}, {400, 400}, {501, 600}, {0, 399}};
        for (int[] aim : met) {
            x.aim(0, aim[0], aim[1]);
            Check.gives("met " + aim[0] + " " + aim[1], 0, () -> x.run(0));
        }
        for (int[] aim : unmet) {
            x.aim(0, aim[0], aim[1]);
            Check.gives("unmet " + aim[0] + " " + aim[1], 1, () -> x.run(0));
        }
    }

    private static void asksOfEachElementApart() {
        for (int element = 0; element < 4; element++) {
            AlloyPlans x = new AlloyPlans();
            x.aim(element, 1, 5);
            Check.gives("named " + element, 1 + element, () -> x.run(0));
            x.aim(element, 0, 0);
            Check.gives("met again " + element, 0, () -> x.run(0));
        }
    }

    private static void forgetsThePlan() {
        AlloyPlans x = Check.withPlan();
        String heat = x.heatAt(1) + " " + x.heatAt(2);
        x.aim(0, 1000, 3000);
        Check.planIsForgotten("behind the same aim again", x);
        Check.same("an aim leaves what is present", heat, x.heatAt(1) + " " + x.heatAt(2));
    }
}
