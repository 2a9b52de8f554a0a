/** Promise 5: kind. */
public final class KindTest {
    public static void main(String[] args) {
        Check.sentence("kind: One more kind: its number", KindTest::numbersKinds);
        Check.sentence("kind: One more kind: its cents, kilos and steps", KindTest::takesTheEndsOfTheRanges);
        Check.sentence("kind: One more kind: holds nothing, keeps all, does not cool", KindTest::startsPlain);
        Check.sentence("kind: Range: cents", KindTest::refusesCents);
        Check.sentence("kind: Range: kilos", KindTest::refusesKilos);
        Check.sentence("kind: Range: steps", KindTest::refusesSteps);
        Check.sentence("kind: Range: .. takes no number", KindTest::refusedTakesNoNumber);
        Check.sentence("kind: meaning: there are 4", KindTest::refusesAFifth);
        Check.end();
    }

    private static void numbersKinds() {
        AlloyPlans x = new AlloyPlans();
        for (int i = 0; i < 4; i++) {
            int number = i;
            Check.refuses("no kind yet", Check.INDEX, () -> x.yields(number, 1, 1));
            Check.gives("number", number, () -> x.kind(5, 1, 1));
            Check.same("is there", "done", Check.outcome(() -> x.yields(number, 1, 1)));
        }
    }

    private static void takesTheEndsOfTheRanges() {
        AlloyPlans x = new AlloyPlans();
        x.heat(12_000);
        Check.gives("the greatest", 0, () -> x.kind(100_000, 1_000, 12));
        Check.gives("the least", 1, () -> x.kind(0, 1, 0));
        x.holds(0, 0, 100_000, 100_000);
        x.holds(1, 0, 100_000, 100_000);
        x.aim(0, 50_000, 50_000);
        Check.gives("run", 0, () -> x.run(0));
        Check.gives("all twelve steps", 12, () -> x.steps(0));
        Check.gives("no step of what has none", 0, () -> x.steps(1));
        Check.gives("cents", 1_200_000, () -> x.planned(0));
        Check.gives("kilos", 12_000, () -> x.planned(1));
        x.aim(0, 50_001, 100_000);
        Check.gives("a thirteenth step is not to be had", 1, () -> x.run(0));
    }

    /** Though something was told of its number before there was such a kind. */
    private static void startsPlain() {
        AlloyPlans x = new AlloyPlans();
        Check.refuses("holds before", Check.INDEX, () -> x.holds(0, 0, 500, 500));
        Check.refuses("yields before", Check.INDEX, () -> x.yields(0, 500, 500));
        x.present(0, 100_000, 100_000);
        x.kind(3, 1, 12);
        x.aim(0, 0, 50_000);
        Check.gives("a kind holds nothing at first", 0, () -> x.run(0));
        Check.gives("one step thins by half", 1, () -> x.steps(0));
        Check.gives("low", 50_000, () -> x.after(0, 0, 0));
        Check.gives("high", 50_000, () -> x.after(0, 1, 0));
        Check.gives("a kind does not cool at first", 0, () -> x.planned(3));
        x.present(0, 0, 0);
        x.holds(0, 0, 100_000, 100_000);
        x.aim(0, 50_000, 50_000);
        Check.gives("all of it stays at first", 0, () -> x.run(0));
        Check.gives("one step fills half", 1, () -> x.steps(0));
    }

    private static void refusesCents() {
        AlloyPlans x = new AlloyPlans();
        for (int cents : new int[] {-1, 100_001}) {
            Check.refuses("cents " + cents, Check.RANGE, () -> x.kind(cents, 1, 1));
        }
        for (int cents : Check.FAR_OUT) {
            Check.refuses("cents " + cents, Check.RANGE, () -> x.kind(cents, 1, 1));
        }
        Check.gives("least", 0, () -> x.kind(0, 1, 1));
        Check.gives("most", 1, () -> x.kind(100_000, 1, 1));
    }

    private static void refusesKilos() {
        AlloyPlans x = new AlloyPlans();
        for (int kilos : new int[] {-1, 0, 1_001}) {
            Check.refuses("kilos " + kilos, Check.RANGE, () -> x.kind(1, kilos, 1));
        }
        for (int kilos : Check.FAR_OUT) {
            Check.refuses("kilos " + kilos, Check.RANGE, () -> x.kind(1, kilos, 1));
        }
        Check.gives("least", 0, () -> x.kind(1, 1, 1));
        Check.gives("most", 1, () -> x.kind(1, 1_000, 1));
    }

    private static void refusesSteps() {
        AlloyPlans x = new AlloyPlans();
        for (int steps : new int[] {-1, 13}) {
            Check.refuses("steps " + steps, Check.RANGE, () -> x.kind(1, 1, steps));
        }
        for (int steps : Check.FAR_OUT) {
            Check.refuses("steps " + steps, Check.RANGE, () -> x.kind(1, 1, steps));
        }
        Check.gives("least", 0, () -> x.kind(1, 1, 0));
        Check.gives("most", 1, () -> x.kind(1, 1, 12));
    }

    private static void refusedTakesNoNumber() {
        AlloyPlans x = new AlloyPlans();
        Check.refuses("cents", Check.RANGE, () -> x.kind(-1, 1, 1));
        Check.refuses("kilos", Check.RANGE, () -> x.kind(1, 0, 1));
        Check.refuses("steps", Check.RANGE, () -> x.kind(1, 1, 13));
        Check.refuses("no kind 0", Check.INDEX, () -> x.steps(0));
        Check.gives("the first one's number", 0, () -> x.kind(1, 1, 1));
    }

    private static void refusesAFifth() {
        AlloyPlans x = new AlloyPlans();
        for (int kind = 0; kind < 4; kind++) {
            x.kind(5, 1, 1);
        }
        Check.refuses("a fifth", Check.MEANING, () -> x.kind(5, 1, 1));
        Check.refuses("a fifth again", Check.MEANING, () -> x.kind(0, 1, 0));
        Check.refuses("no kind 4", Check.INDEX, () -> x.yields(4, 1, 1));
        x.present(0, 90, 90);
        x.aim(0, 0, 18);
        Check.gives("run", 0, () -> x.run(0));
        Check.gives("the four are as they were", 20, () -> x.planned(0));
    }
}
