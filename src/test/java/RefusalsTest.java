/** The end of the section 'Terms': which exception each refusal is, and which comes first. */
public final class RefusalsTest {
    public static void main(String[] args) {
        Check.sentence("index (no such number): IndexOutOfBoundsException", RefusalsTest::indexes);
        Check.sentence("turn (not now): IllegalStateException", RefusalsTest::turns);
        Check.sentence("range: IllegalArgumentException", RefusalsTest::ranges);
        Check.sentence("meaning (what can not be, no room): UnsupportedOperationException", RefusalsTest::meanings);
        Check.sentence("in this order: index .. range", RefusalsTest::indexComesBeforeRange);
        Check.sentence("in this order: index .. turn", RefusalsTest::indexComesBeforeTurn);
        Check.sentence("in this order: turn .. range", RefusalsTest::turnComesBeforeRange);
        Check.sentence("in this order: range .. meaning", RefusalsTest::rangeComesBeforeMeaning);
        Check.sentence("in this order: turn .. meaning", RefusalsTest::turnComesBeforeMeaning);
        Check.end();
    }

    private static void indexes() {
        AlloyPlans x = Check.withPlan();
        for (int far : Check.FAR_OUT) {
            Check.refuses("present", Check.INDEX, () -> x.present(far, 0, 0));
            Check.refuses("aim", Check.INDEX, () -> x.aim(far, 0, 0));
            Check.refuses("holds, kind", Check.INDEX, () -> x.holds(far, 0, 0, 0));
            Check.refuses("holds, element", Check.INDEX, () -> x.holds(0, far, 0, 0));
            Check.refuses("holds, both", Check.INDEX, () -> x.holds(far, far, 0, 0));
            Check.refuses("yields", Check.INDEX, () -> x.yields(far, 0, 0));
            Check.refuses("steps", Check.INDEX, () -> x.steps(far));
            Check.refuses("planned", Check.INDEX, () -> x.planned(far));
            Check.refuses("after, element", Check.INDEX, () -> x.after(far, 0, 0));
            Check.refuses("after, end", Check.INDEX, () -> x.after(0, far, 0));
            Check.refuses("after, part", Check.INDEX, () -> x.after(0, 0, far));
            Check.refuses("after, all", Check.INDEX, () -> x.after(far, far, far));
            Check.refuses("heatAt", Check.INDEX, () -> x.heatAt(far));
            Check.refuses("order", Check.INDEX, () -> x.order(far < 0 ? far : -far));
        }
    }

    private static void turns() {
        AlloyPlans x = new AlloyPlans();
        x.kind(1, 1, 1);
        Check.refuses("steps", Check.TURN, () -> x.steps(0));
        Check.refuses("planned", Check.TURN, () -> x.planned(3));
        Check.refuses("order", Check.TURN, () -> x.order(0));
        Check.refuses("after", Check.TURN, () -> x.after(3, 1, 1));
        Check.refuses("add", Check.TURN, x::add);
        x.run(0);
        x.add();
        Check.refuses("heat", Check.TURN, () -> x.heat(1));
    }

    private static void ranges() {
        AlloyPlans x = Check.withPlan();
        for (int far : Check.FAR_OUT) {
            Check.refuses("heat", Check.RANGE, () -> x.heat(far));
            Check.refuses("present, low", Check.RANGE, () -> x.present(0, far, 100_000));
            Check.refuses("present, high", Check.RANGE, () -> x.present(0, 0, far));
            Check.refuses("present, both", Check.RANGE, () -> x.present(0, far, far));
            Check.refuses("aim, low", Check.RANGE, () -> x.aim(0, far, 100_000));
            Check.refuses("aim, high", Check.RANGE, () -> x.aim(0, 0, far));
            Check.refuses("aim, both", Check.RANGE, () -> x.aim(0, far, far));
            Check.refuses("holds, low", Check.RANGE, () -> x.holds(0, 0, far, 100_000));
            Check.refuses("holds, high", Check.RANGE, () -> x.holds(0, 0, 0, far));
            Check.refuses("holds, both", Check.RANGE, () -> x.holds(0, 0, far, far));
            Check.refuses("kind, cents", Check.RANGE, () -> x.kind(far, 1, 1));
            Check.refuses("kind, kilos", Check.RANGE, () -> x.kind(1, far, 1));
            Check.refuses("kind, steps", Check.RANGE, () -> x.kind(1, 1, far));
            Check.refuses("yields, yield", Check.RANGE, () -> x.yields(0, far, 0));
            Check.refuses("yields, cooling", Check.RANGE, () -> x.yields(0, 0, far));
            Check.refuses("run", Check.RANGE, () -> x.run(far));
        }
    }

    private static AlloyPlans ofFourKinds() {
        AlloyPlans x = new AlloyPlans();
        for (int kind = 0; kind < 4; kind++) {
            x.kind(1, 1, 1);
        }
        return x;
    }

    private static void meanings() {
        AlloyPlans x = ofFourKinds();
        Check.refuses("what can not be: a fifth kind", Check.MEANING, () -> x.kind(1, 1, 1));
        x.heat(65_536);
        x.holds(0, 0, 100_000, 100_000);
        x.aim(0, 1, 100_000);
        x.run(0);
        Check.refuses("no room: one kilo too many", Check.MEANING, x::add);
    }

    private static void indexComesBeforeRange() {
        AlloyPlans x = Check.withPlan();
        int[][] spans = {{2, 1}, {-1, 0}, {0, 100_001}};
        for (int[] span : spans) {
            for (int element : new int[] {-1, 4}) {
                Check.refuses("present", Check.INDEX, () -> x.present(element, span[0], span[1]));
                Check.refuses("aim", Check.INDEX, () -> x.aim(element, span[0], span[1]));
                Check.refuses("holds, element", Check.INDEX, () -> x.holds(0, element, span[0], span[1]));
            }
            for (int kind : new int[] {-1, 1, 4}) {
                Check.refuses("holds, kind", Check.INDEX, () -> x.holds(kind, 0, span[0], span[1]));
            }
        }
        for (int kind : new int[] {-1, 1, 4}) {
            Check.refuses("yields, yield", Check.INDEX, () -> x.yields(kind, -1, 0));
            Check.refuses("yields, cooling", Check.INDEX, () -> x.yields(kind, 0, 1001));
        }
    }

    private static void indexComesBeforeTurn() {
        AlloyPlans x = new AlloyPlans();
        x.kind(1, 1, 1);
        Check.planIsForgotten("at first", x);
        for (int kind : new int[] {-1, 1, 4}) {
            Check.refuses("steps", Check.INDEX, () -> x.steps(kind));
        }
        for (int what : new int[] {-1, 4}) {
            Check.refuses("planned", Check.INDEX, () -> x.planned(what));
            Check.refuses("after, element", Check.INDEX, () -> x.after(what, 0, 0));
        }
        for (int number : new int[] {-1, 2}) {
            Check.refuses("after, end", Check.INDEX, () -> x.after(0, number, 0));
            Check.refuses("after, part", Check.INDEX, () -> x.after(0, 0, number));
        }
        Check.refuses("order", Check.INDEX, () -> x.order(-1));
    }

    private static void turnComesBeforeRange() {
        AlloyPlans x = new AlloyPlans();
        x.run(0);
        x.add();
        for (int kilos : new int[] {0, 65_537, Integer.MIN_VALUE, Integer.MAX_VALUE}) {
            Check.refuses("heat", Check.TURN, () -> x.heat(kilos));
        }
    }

    private static void rangeComesBeforeMeaning() {
        AlloyPlans x = ofFourKinds();
        int[][] kinds = {{-1, 1, 1}, {100_001, 1, 1}, {1, 0, 1}, {1, 1_001, 1}, {1, 1, -1}, {1, 1, 13}};
        for (int[] kind : kinds) {
            Check.refuses("kind", Check.RANGE, () -> x.kind(kind[0], kind[1], kind[2]));
        }
    }

    private static void turnComesBeforeMeaning() {
        AlloyPlans x = ofFourKinds();
        x.heat(65_536);
        x.holds(0, 0, 100_000, 100_000);
        x.aim(0, 1, 100_000);
        x.run(0);
        x.aim(0, 1, 100_000);
        Check.refuses("add of a plan without room that is forgotten", Check.TURN, x::add);
    }
}
