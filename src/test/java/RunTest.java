/** Promise 8: run. */
public final class RunTest {
    public static void main(String[] args) {
        refusesWhatIsOutOfRange();
        endsThePlanBefore();
        takesLeastCents();
        takesFewestKindsOfTheSameCents();
        takesTheFirstOfTheSameKinds();
        addsNothingForNothing();
        keepsWithinTheHeatLeft();
        namesTheLowestUnmet();
        meetsAllAtOnce();
        thinsWhatIsTooMuch();
        goesThroughAllNumbers();
        Check.end();
    }

    private static AlloyPlans ofKinds(int kilos, int[][] kinds) {
        AlloyPlans x = new AlloyPlans();
        x.heat(kilos);
        for (int kind = 0; kind < kinds.length; kind++) {
            x.kind(kinds[kind][0], kinds[kind][1], kinds[kind][2]);
            x.holds(kind, 0, kinds[kind][3], kinds[kind][3]);
        }
        return x;
    }

    private static void hasSteps(String told, AlloyPlans x, int... due) {
        for (int i = 0; i < due.length; i++) {
            int kind = i;
            Check.gives(told + ", steps of " + kind, due[kind], () -> x.steps(kind));
        }
    }

    private static void refusesWhatIsOutOfRange() {
        AlloyPlans x = new AlloyPlans();
        Check.gives("least heat left", 0, () -> x.run(0));
        Check.gives("most heat left", 0, () -> x.run(100_000_000));
        Check.refuses("below", Check.RANGE, () -> x.run(-1));
        Check.refuses("above", Check.RANGE, () -> x.run(100_000_001));
        for (int far : Check.FAR_OUT) {
            Check.refuses("run " + far, Check.RANGE, () -> x.run(far));
        }
        Check.planStands("behind a refused run", x);
    }

    private static void endsThePlanBefore() {
        AlloyPlans x = Check.withPlan();
        Check.gives("none within so little heat", 1, () -> x.run(11));
        Check.planIsForgotten("behind a run without one", x);
        Check.gives("one within enough", 0, () -> x.run(12));
        Check.planStands("behind a run with one", x);
    }

    private static void takesLeastCents() {
        AlloyPlans x = ofKinds(10, new int[][] {{9, 1, 5, 1000}, {5, 1, 5, 600}, {8, 1, 5, 1000}});
        x.aim(0, 1, 100_000);
        Check.gives("run", 0, () -> x.run(0));
        hasSteps("a kind that is cheaper", x, 0, 1, 0);
        x.aim(0, 80, 100_000);
        x.run(0);
        hasSteps("a kind that is stronger", x, 0, 0, 1);
        x.aim(0, 150, 100_000);
        x.run(0);
        hasSteps("a kind twice, 16, not three of the cheaper, 15, that miss", x, 0, 0, 2);
    }

    private static void takesFewestKindsOfTheSameCents() {
        AlloyPlans x = ofKinds(10, new int[][] {{4, 1, 9, 1000}, {8, 2, 1, 1000}, {12, 3, 1, 1000}});
        x.aim(0, 230, 100_000);
        Check.gives("run", 0, () -> x.run(0));
        hasSteps("one kind comes before a first one of two", x, 0, 0, 1);
        Check.gives("kinds", 1, () -> x.planned(2));
        AlloyPlans more = ofKinds(10, new int[][] {{4, 1, 3, 1000}, {6, 1, 1, 1500}, {6, 1, 1, 1500}});
        more.aim(0, 220, 100_000);
        Check.gives("run of more steps", 0, () -> more.run(0));
        hasSteps("three steps of one kind come before two of two", more, 3, 0, 0);
        AlloyPlans free = ofKinds(10, new int[][] {{0, 1, 1, 1000}, {0, 1, 2, 1000}});
        free.aim(0, 160, 100_000);
        Check.gives("run of what costs nothing", 0, () -> free.run(0));
        hasSteps("fewest kinds of what costs nothing", free, 0, 2);
    }

    private static void takesTheFirstOfTheSameKinds() {
        AlloyPlans x = ofKinds(10, new int[][] {{5, 1, 3, 1000}, {5, 1, 3, 1000}, {5, 1, 3, 1000}});
        x.aim(0, 80, 100_000);
        Check.gives("run", 0, () -> x.run(0));
        hasSteps("of kind 0 the fewest, then of kind 1", x, 0, 0, 1);
        x.aim(0, 250, 100_000);
        x.run(0);
        hasSteps("two kinds", x, 0, 1, 3);
        x.aim(0, 400, 100_000);
        x.run(0);
        hasSteps("three kinds", x, 1, 3, 3);
        AlloyPlans free = ofKinds(10, new int[][] {{0, 1, 12, 1000}});
        free.aim(0, 160, 100_000);
        free.run(0);
        hasSteps("the fewest steps of what costs nothing", free, 2);
    }

    private static void addsNothingForNothing() {
        AlloyPlans x = ofKinds(10, new int[][] {{0, 1, 12, 1000}, {0, 1, 12, 0}});
        Check.gives("run", 0, () -> x.run(0));
        hasSteps("free kinds are left out", x, 0, 0);
        Check.gives("kinds", 0, () -> x.planned(2));
        AlloyPlans none = new AlloyPlans();
        Check.gives("a plan without kinds", 0, () -> none.run(0));
    }

    private static void keepsWithinTheHeatLeft() {
        AlloyPlans x = ofKinds(10, new int[][] {{1, 2, 5, 1000}, {9, 2, 5, 1000}});
        x.yields(0, 1000, 50);
        x.yields(1, 1000, 3);
        x.aim(0, 250, 100_000);
        Check.gives("enough for the cheap one", 0, () -> x.run(200));
        hasSteps("cheap", x, 2, 0);
        Check.gives("cooling", 200, () -> x.planned(3));
        Check.gives("one of each", 0, () -> x.run(199));
        hasSteps("mixed", x, 1, 1);
        Check.gives("still one of each", 0, () -> x.run(106));
        Check.gives("only the dear one", 0, () -> x.run(105));
        hasSteps("dear", x, 0, 2);
        Check.gives("just enough", 0, () -> x.run(12));
        Check.gives("too little", 1, () -> x.run(11));
    }

    private static void namesTheLowestUnmet() {
        AlloyPlans x = new AlloyPlans();
        x.kind(1, 1, 1);
        x.kind(1, 1, 1);
        x.holds(0, 0, 1000, 1000);
        x.holds(1, 2, 1000, 1000);
        x.yields(0, 1000, 10);
        x.yields(1, 1000, 10);
        x.aim(0, 300, 100_000);
        x.aim(2, 300, 100_000);
        Check.gives("both", 0, () -> x.run(20));
        Check.gives("each could be met alone, not both", 3, () -> x.run(19));
        Check.gives("not even the first", 1, () -> x.run(9));
        x.aim(3, 1, 5);
        Check.gives("the first three, not the last", 4, () -> x.run(20));
        Check.gives("the third named, not the last", 3, () -> x.run(19));
        x.aim(1, 1, 5);
        Check.gives("the second", 2, () -> x.run(20));
        x.aim(0, 0, 0);
        Check.gives("the first is met, the second not", 2, () -> x.run(0));
    }

    private static void meetsAllAtOnce() {
        AlloyPlans x = new AlloyPlans();
        x.heat(100);
        x.kind(1, 1, 12);
        x.holds(0, 0, 10_000, 10_000);
        x.holds(0, 1, 0, 10_000);
        x.aim(0, 300, 100_000);
        x.aim(1, 0, 300);
        Check.gives("element 0 asks four steps, element 1 bears three", 2, () -> x.run(0));
        x.aim(1, 0, 385);
        Check.gives("element 1 bears four steps", 0, () -> x.run(0));
        hasSteps("four", x, 4);
        x.aim(1, 0, 384);
        Check.gives("just below 40000 / 104", 2, () -> x.run(0));
    }

    private static void thinsWhatIsTooMuch() {
        AlloyPlans x = new AlloyPlans();
        x.heat(65_536);
        for (int element = 0; element < 4; element++) {
            x.present(element, 0, 100_000);
            x.aim(element, 0, 57_723);
        }
        for (int kind = 0; kind < 4; kind++) {
            x.kind(100_000, 1_000, 12);
            x.yields(kind, 1000, 1000);
        }
        Check.gives("all 48 steps thin to 57722.66..", 0, () -> x.run(48_000_000));
        hasSteps("all", x, 12, 12, 12, 12);
        Check.gives("cents", 4_800_000, () -> x.planned(0));
        Check.gives("kilos", 48_000, () -> x.planned(1));
        Check.gives("cooling", 48_000_000, () -> x.planned(3));
        Check.gives("a little less heat", 1, () -> x.run(47_999_999));
        x.aim(3, 0, 57_722);
        Check.gives("more than that is not to be had", 4, () -> x.run(100_000_000));
    }

    private static void goesThroughAllNumbers() {
        AlloyPlans x = ofKinds(1000, new int[][] {{7, 1, 12, 100_000}, {11, 1, 12, 0}, {13, 1, 12, 0}, {17, 1, 12, 0}});
        x.holds(1, 1, 100_000, 100_000);
        x.holds(2, 2, 100_000, 100_000);
        x.holds(3, 3, 100_000, 100_000);
        for (int n = 0; n < 60; n++) {
            int[] due = {n % 13, n * 5 % 13, n * 7 % 13, n * 11 % 13};
            int all = 1000 + due[0] + due[1] + due[2] + due[3];
            for (int element = 0; element < 4; element++) {
                int share = due[element] * 100_000 / all;
                x.aim(element, share, share + 1);
            }
            Check.gives("run " + n, 0, () -> x.run(0));
            hasSteps("the only numbers that fit, " + n, x, due);
        }
    }
}
