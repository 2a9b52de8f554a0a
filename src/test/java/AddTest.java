/** Promise 13: add. */
public final class AddTest {
    public static void main(String[] args) {
        addsAndRounds();
        roundsTheLeastUpAndTheMostDown();
        countsCorrections();
        refusesWithoutAPlan();
        refusesTooManyKilos();
        plansAnewFromWhatIsThere();
        Check.end();
    }

    private static void heatIs(String told, AlloyPlans x, long... due) {
        for (int i = 0; i < due.length; i++) {
            int what = i;
            Check.gives(told + ", heatAt " + what, due[what], () -> x.heatAt(what));
        }
    }

    private static void addsAndRounds() {
        AlloyPlans x = Check.withPlan();
        x.present(1, 104, 104);
        x.present(2, 7, 9);
        x.present(3, 1, 1);
        x.run(1000);
        Check.gives("the first adding", 0, x::add);
        Check.planIsForgotten("behind an adding", x);
        heatIs("low rounded down, high up, whole ones as they are", x, 104, 1057, 1347, 100, 100, 6, 9, 0, 1, 20);
        Check.refuses("a plan is added once", Check.TURN, x::add);
        heatIs("behind a refused adding", x, 104, 1057, 1347, 100, 100, 6, 9, 0, 1, 20);
    }

    /** One thousandth of a share over two kilos, and one thousandth below a whole share. */
    private static void roundsTheLeastUpAndTheMostDown() {
        AlloyPlans x = new AlloyPlans();
        x.kind(0, 1, 1);
        x.holds(0, 0, 0, 1);
        x.yields(0, 1, 0);
        x.present(1, 2, 2);
        x.aim(1, 0, 1);
        Check.gives("run", 0, () -> x.run(0));
        Check.gives("upper", 1, () -> x.after(0, 1, 0));
        Check.gives("lower", 2000, () -> x.after(0, 1, 1));
        x.add();
        heatIs("just above 0", x, 2, 0, 1, 1, 1);

        AlloyPlans y = new AlloyPlans();
        y.present(0, 1, 1);
        y.kind(0, 1, 1);
        y.holds(0, 0, 1, 1);
        y.yields(0, 999, 0);
        y.present(1, 2, 2);
        y.aim(1, 0, 1);
        y.run(0);
        Check.gives("upper", 1999, () -> y.after(0, 0, 0));
        y.add();
        heatIs("just below 1", y, 2, 0, 1, 1, 1);
    }

    private static void countsCorrections() {
        AlloyPlans x = new AlloyPlans();
        for (int i = 0; i < 40; i++) {
            x.run(0);
            Check.gives("corrections", i, x::add);
        }
        AlloyPlans y = Check.withPlan();
        for (int i = 0; i < 5; i++) {
            y.present(0, 100, 200);
            y.run(100_000);
            Check.gives("corrections", i, y::add);
        }
        int steps = 2 + 2 + 3 + 3 + 3;
        Check.gives("kilos of all addings", 100 + steps * 2, () -> y.heatAt(0));
        Check.gives("cents of all addings", steps * 10, () -> y.heatAt(9));
    }

    private static void refusesWithoutAPlan() {
        AlloyPlans x = new AlloyPlans();
        Check.refuses("none yet", Check.TURN, x::add);
        x.aim(0, 1, 1);
        x.run(0);
        Check.refuses("none found", Check.TURN, x::add);
        x.heat(5);
        Check.same("a refused adding adds nothing", "5", Long.toString(x.heatAt(0)));
    }

    private static void refusesTooManyKilos() {
        AlloyPlans x = new AlloyPlans();
        x.heat(65_536);
        x.kind(3, 1, 1);
        x.holds(0, 0, 100_000, 100_000);
        x.aim(0, 1, 100_000);
        Check.gives("a plan all the same", 0, () -> x.run(0));
        String before = Check.seen(x, 1);
        Check.refuses("one kilo too many", Check.MEANING, x::add);
        Check.same("nothing is changed", before, Check.seen(x, 1));
        Check.refuses("one kilo too many, again", Check.MEANING, x::add);
        x.heat(65_535);
        Check.gives("nothing was added, so the heat is told", 65_535, () -> x.heatAt(0));
        Check.refuses("turn comes before meaning", Check.TURN, x::add);
        x.run(0);
        Check.gives("the last kilo", 0, x::add);
        heatIs("full", x, 65_536, 1, 2, 0, 0, 0, 0, 0, 0, 3);
        x.run(0);
        Check.gives("an empty plan has room", 1, x::add);
    }

    private static void plansAnewFromWhatIsThere() {
        AlloyPlans x = Check.withPlan();
        x.add();
        Check.gives("met already", 0, () -> x.run(0));
        Check.gives("no steps", 0, () -> x.steps(0));
        x.aim(0, 1058, 3000);
        Check.gives("the rounded low end is what is present", 0, () -> x.run(1000));
        Check.gives("one step", 1, () -> x.steps(0));
        Check.gives("upper", (1057 * 104 + 25_000 * 2) / 2, () -> x.after(0, 0, 0));
        Check.gives("lower", 53, () -> x.after(0, 0, 1));
    }
}
