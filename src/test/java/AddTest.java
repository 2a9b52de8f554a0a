/** Promise 13: add. */
public final class AddTest {
    public static void main(String[] args) {
        Check.sentence("add: Adds the plan", AddTest::addsThePlan);
        Check.sentence("add: Adds the plan: the next one starts from what is there", AddTest::plansAnewFromWhatIsThere);
        Check.sentence("add: Adds the plan: what was met stays met", AddTest::staysMet);
        Check.sentence("add: how many corrections there were", AddTest::countsCorrections);
        Check.sentence("add: turn: there is no plan", AddTest::refusesWithoutAPlan);
        Check.sentence("add: meaning: the heat would have more than 65,536 kilos", AddTest::refusesTooManyKilos);
        Check.sentence("add: meaning: .. not when it has just so many", AddTest::fillsToTheLastKilo);
        Check.sentence("add: meaning: .. nothing is added then", AddTest::refusedAddsNothing);
        Check.end();
    }

    private static void heatIs(String told, AlloyPlans x, long... due) {
        for (int i = 0; i < due.length; i++) {
            int what = i;
            Check.gives(told + ", heatAt " + what, due[what], () -> x.heatAt(what));
        }
    }

    private static void addsThePlan() {
        AlloyPlans x = Check.withPlan();
        x.present(1, 104, 104);
        x.present(2, 7, 9);
        x.present(3, 1, 1);
        x.run(1000);
        Check.gives("the first adding", 0, x::add);
        heatIs("low rounded down, high up, whole ones as they are", x, 104, 1057, 1347, 100, 100, 6, 9, 0, 1, 20);
    }

    private static void plansAnewFromWhatIsThere() {
        AlloyPlans x = Check.withPlan();
        x.add();
        x.aim(0, 1058, 3000);
        Check.gives("the rounded low end is what is present", 0, () -> x.run(1000));
        Check.gives("one step", 1, () -> x.steps(0));
        Check.gives("upper", (1057 * 104 + 25_000 * 2) / 2, () -> x.after(0, 0, 0));
        Check.gives("lower", 53, () -> x.after(0, 0, 1));
    }

    private static void staysMet() {
        AlloyPlans x = Check.withPlan();
        x.aim(0, 1057, 1347);
        Check.gives("1057.69.. and 1346.15.. are within", 0, () -> x.run(1000));
        x.add();
        Check.gives("so are 1057 and 1347", 0, () -> x.run(0));
        Check.gives("no steps", 0, () -> x.steps(0));
    }

    private static void countsCorrections() {
        AlloyPlans x = new AlloyPlans();
        for (int i = 0; i < 40; i++) {
            x.run(0);
            Check.gives("corrections", i, x::add);
        }
        AlloyPlans y = Check.withPlan();
        for (int i = 0; i < 5; i++) {
            y.present(0, 100, 200);
            y.run(100_000);
            Check.gives("corrections", i, y::add);
            Check.refuses("a refused one is none", Check.TURN, y::add);
        }
        int steps = 2 + 2 + 3 + 3 + 3;
        Check.gives("kilos of all addings", 100 + steps * 2, () -> y.heatAt(0));
        Check.gives("cents of all addings", steps * 10, () -> y.heatAt(9));
    }

    private static void refusesWithoutAPlan() {
        AlloyPlans x = new AlloyPlans();
        Check.refuses("none yet", Check.TURN, x::add);
        x.aim(0, 1, 1);
        x.run(0);
        Check.refuses("none found", Check.TURN, x::add);
        AlloyPlans y = Check.withPlan();
        y.add();
        Check.refuses("added", Check.TURN, y::add);
        heatIs("behind a refused adding", y, 104, 1057, 1347, 0, 0, 0, 0, 0, 0, 20);
    }

    /** A heat of so many kilos that asks for one step of so many. */
    private static AlloyPlans ofOneStep(int kilos, int stepKilos) {
        AlloyPlans x = new AlloyPlans();
        x.heat(kilos);
        x.kind(3, stepKilos, 1);
        x.holds(0, 0, 100_000, 100_000);
        x.aim(0, 1, 100_000);
        Check.gives("a plan all the same", 0, () -> x.run(0));
        return x;
    }

    private static void refusesTooManyKilos() {
        int[][] tooMany = {{65_536, 1}, {65_535, 2}, {64_537, 1_000}, {65_536, 1_000}};
        for (int[] kilos : tooMany) {
            AlloyPlans x = ofOneStep(kilos[0], kilos[1]);
            Check.refuses(kilos[0] + " and " + kilos[1], Check.MEANING, x::add);
        }
        AlloyPlans most = new AlloyPlans();
        most.heat(65_536);
        most.present(0, 100_000, 100_000);
        most.aim(0, 0, 57_723);
        for (int kind = 0; kind < 4; kind++) {
            most.kind(1, 1_000, 12);
        }
        Check.gives("all steps", 0, () -> most.run(0));
        Check.refuses("113,536 kilos", Check.MEANING, most::add);
    }

    private static void fillsToTheLastKilo() {
        AlloyPlans x = ofOneStep(65_535, 1);
        Check.gives("the last kilo", 0, x::add);
        heatIs("full", x, 65_536, 1, 2, 0, 0, 0, 0, 0, 0, 3);
        x.run(0);
        Check.gives("an empty plan has room", 1, x::add);
        AlloyPlans y = ofOneStep(64_536, 1_000);
        Check.gives("the last thousand", 0, y::add);
        Check.gives("full", 65_536, () -> y.heatAt(0));
    }

    private static void refusedAddsNothing() {
        AlloyPlans x = ofOneStep(65_536, 1);
        String before = Check.seen(x, 1);
        Check.refuses("add", Check.MEANING, x::add);
        Check.same("nothing is changed", before, Check.seen(x, 1));
        Check.refuses("again", Check.MEANING, x::add);
        x.heat(65_535);
        x.run(0);
        Check.gives("a refused one is no correction", 0, x::add);
        Check.gives("nor does it cost", 3, () -> x.heatAt(9));
    }
}
