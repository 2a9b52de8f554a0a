/** Promise 5: kind. */
public final class KindTest {
    private static final int[][] BAD = {{-1, 1, 1}, {100_001, 1, 1}, {1, 0, 1}, {1, -1, 1}, {1, 1_001, 1},
        {1, 1, -1}, {1, 1, 13}};

    public static void main(String[] args) {
        numbersKindsAndRefusesAFifth();
        refusesWhatIsOutOfRange();
        takesTheEndsOfTheRanges();
        startsPlain();
        forgetsThePlanUnlessRefused();
        Check.end();
    }

    private static void numbersKindsAndRefusesAFifth() {
        AlloyPlans x = new AlloyPlans();
        for (int i = 0; i < 4; i++) {
            int number = i;
            Check.refuses("no kind yet", Check.INDEX, () -> x.yields(number, 1, 1));
            Check.gives("number", number, () -> x.kind(5, 1, 1));
        }
        Check.refuses("a fifth kind", Check.MEANING, () -> x.kind(5, 1, 1));
        Check.refuses("a fifth kind again", Check.MEANING, () -> x.kind(0, 1, 0));
        Check.refuses("no kind 4", Check.INDEX, () -> x.yields(4, 1, 1));
        refusesAll("range comes before meaning", x);
    }

    private static void refusesWhatIsOutOfRange() {
        AlloyPlans x = new AlloyPlans();
        refusesAll("out of range", x);
        for (int far : Check.FAR_OUT) {
            Check.refuses("cents " + far, Check.RANGE, () -> x.kind(far, 1, 1));
            Check.refuses("kilos " + far, Check.RANGE, () -> x.kind(1, far, 1));
            Check.refuses("steps " + far, Check.RANGE, () -> x.kind(1, 1, far));
        }
        Check.gives("refused kinds take no number", 0, () -> x.kind(1, 1, 1));
    }

    private static void refusesAll(String told, AlloyPlans x) {
        for (int[] bad : BAD) {
            Check.refuses(told + " " + bad[0] + " " + bad[1] + " " + bad[2], Check.RANGE,
                    () -> x.kind(bad[0], bad[1], bad[2]));
        }
    }

    private static void takesTheEndsOfTheRanges() {
        AlloyPlans x = new AlloyPlans();
        x.heat(12_000);
        Check.gives("the greatest", 0, () -> x.kind(100_000, 1_000, 12));
        Check.gives("the least", 1, () -> x.kind(0, 1, 0));
        x.holds(0, 0, 100_000, 100_000);
        x.holds(1, 0, 100_000, 100_000);
        x.aim(0, 50_000, 50_000);
        Check.gives("run", 0, () -> x.run(0));
        Check.gives("all twelve steps", 12, () -> x.steps(0));
        Check.gives("no step of what has none", 0, () -> x.steps(1));
        Check.gives("cents", 1_200_000, () -> x.planned(0));
        Check.gives("kilos", 12_000, () -> x.planned(1));
        x.aim(0, 50_001, 100_000);
        Check.gives("a thirteenth step is not to be had", 1, () -> x.run(0));
    }

    private static void startsPlain() {
        AlloyPlans x = new AlloyPlans();
        x.present(0, 100_000, 100_000);
        x.kind(3, 1, 12);
        x.aim(0, 0, 50_000);
        Check.gives("a kind holds nothing at first", 0, () -> x.run(0));
        Check.gives("one step thins by half", 1, () -> x.steps(0));
        Check.gives("a kind does not cool at first", 0, () -> x.planned(3));
        x.present(0, 0, 0);
        x.holds(0, 0, 100_000, 100_000);
        x.aim(0, 50_000, 50_000);
        Check.gives("all of it stays at first", 0, () -> x.run(0));
        Check.gives("one step fills half", 1, () -> x.steps(0));
    }

    private static void forgetsThePlanUnlessRefused() {
        AlloyPlans x = Check.withPlan();
        Check.refuses("kind", Check.RANGE, () -> x.kind(-1, 1, 1));
        Check.planStands("behind a kind refused by range", x);
        x.kind(1, 1, 0);
        Check.planIsForgotten("behind a kind", x);
        x.kind(1, 1, 0);
        x.kind(1, 1, 0);
        x.run(1000);
        Check.refuses("a fifth kind", Check.MEANING, () -> x.kind(1, 1, 1));
        Check.planStands("behind a kind refused by meaning", x);
    }
}
