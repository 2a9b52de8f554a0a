/** The section 'Terms', its sixth paragraph: samples, adding, and how long a plan stays. */
public final class TermsAddingTest {
    public static void main(String[] args) {
        Check.sentence("A SAMPLE of an element tells its present span anew", TermsAddingTest::sampleTellsAnew);
        Check.sentence("ADDING a plan adds its kilos to the heat", TermsAddingTest::addsKilos);
        Check.sentence("makes each element's present span its ends by the plan (low rounded down",
                TermsAddingTest::roundsLowDown);
        Check.sentence("its ends by the plan (..high rounded up)", TermsAddingTest::roundsHighUp);
        Check.sentence("its ends by the plan (..): whole ones as they are", TermsAddingTest::leavesWholeOnes);
        Check.sentence("and forgets it", TermsAddingTest::forgetsWhatIsAdded);
        Check.sentence("each is a CORRECTION but the first", TermsAddingTest::countsCorrections);
        Check.sentence("A plan stays until it is added: not asked for", TermsAddingTest::staysBehindAsking);
        Check.sentence("A plan stays until it is added: not refused for room", TermsAddingTest::staysBehindARefusedAdd);
        Check.sentence("the next run()", TermsAddingTest::goesByTheNextRun);
        Check.sentence("the next run(): not refused", TermsAddingTest::staysBehindARefusedRun);
        goesByTelling("heat()", x -> x.heat(100));
        goesByTelling("present()", x -> x.present(0, 100, 200));
        goesByTelling("aim()", x -> x.aim(0, 1000, 3000));
        goesByTelling("kind()", x -> x.kind(1, 1, 0));
        goesByTelling("holds()", x -> x.holds(0, 0, 50_000, 60_000));
        goesByTelling("yields()", x -> x.yields(0, 500, 3));
        Check.sentence("not when they refuse: heat()", TermsAddingTest::staysBehindARefusedHeat);
        Check.sentence("not when they refuse: present()", TermsAddingTest::staysBehindARefusedPresent);
        Check.sentence("not when they refuse: aim()", TermsAddingTest::staysBehindARefusedAim);
        Check.sentence("not when they refuse: kind()", TermsAddingTest::staysBehindARefusedKind);
        Check.sentence("not when they refuse: holds()", TermsAddingTest::staysBehindARefusedHolds);
        Check.sentence("not when they refuse: yields()", TermsAddingTest::staysBehindARefusedYields);
        Check.end();
    }

    private static void sampleTellsAnew() {
        for (int element = 0; element < 4; element++) {
            AlloyPlans x = Check.withPlan();
            x.add();
            long[] due = {104, 1057, 1347, 0, 0, 0, 0, 0, 0, 20};
            due[1 + 2 * element] = 900;
            due[2 + 2 * element] = 3001;
            x.present(element, 900, 3001);
            heatIs("sampled " + element, x, due);
        }
        AlloyPlans y = Check.withPlan();
        y.add();
        y.present(0, 0, 0);
        Check.gives("a correction from what was sampled", 0, () -> y.run(1000));
        Check.gives("steps of it", 3, () -> y.steps(0));
    }

    private static void heatIs(String told, AlloyPlans x, long... due) {
        for (int i = 0; i < due.length; i++) {
            int what = i;
            Check.gives(told + ", heatAt " + what, due[what], () -> x.heatAt(what));
        }
    }

    private static void addsKilos() {
        AlloyPlans x = Check.withPlan();
        x.add();
        Check.gives("two steps of two kilos", 104, () -> x.heatAt(0));
        x.run(1000);
        x.add();
        Check.gives("an empty plan", 104, () -> x.heatAt(0));
    }

    /** One kilo and one more of a kind that holds so much of element 0, of which so many thousandths stay. */
    private static AlloyPlans ofTwoKilos(int present, int low, int high, int thousandths) {
        AlloyPlans x = new AlloyPlans();
        x.present(0, present, present);
        x.kind(0, 1, 1);
        x.holds(0, 0, low, high);
        x.yields(0, thousandths, 0);
        x.present(1, 2, 2);
        x.aim(1, 0, 1);
        Check.gives("run", 0, () -> x.run(0));
        Check.gives("steps", 1, () -> x.steps(0));
        return x;
    }

    private static void roundsLowDown() {
        AlloyPlans x = ofTwoKilos(1, 1, 1, 999);
        Check.gives("upper", 1999, () -> x.after(0, 0, 0));
        Check.gives("lower", 2000, () -> x.after(0, 0, 1));
        x.add();
        Check.gives("one part in 2000 below 1", 0, () -> x.heatAt(1));
        AlloyPlans y = ofTwoKilos(7, 8, 8, 1000);
        y.add();
        Check.gives("a half", 7, () -> y.heatAt(1));
        AlloyPlans z = ofTwoKilos(0, 1, 1, 1);
        z.add();
        Check.gives("one part in 2000 above 0", 0, () -> z.heatAt(1));
    }

    private static void roundsHighUp() {
        AlloyPlans x = ofTwoKilos(0, 0, 1, 1);
        Check.gives("upper", 1, () -> x.after(0, 1, 0));
        Check.gives("lower", 2000, () -> x.after(0, 1, 1));
        x.add();
        Check.gives("one part in 2000 above 0", 1, () -> x.heatAt(2));
        AlloyPlans y = ofTwoKilos(7, 8, 8, 1000);
        y.add();
        Check.gives("a half", 8, () -> y.heatAt(2));
        AlloyPlans z = ofTwoKilos(100_000, 0, 100_000, 999);
        z.add();
        Check.gives("99,950 as it is", 99_950, () -> z.heatAt(2));
        AlloyPlans most = ofTwoKilos(100_000, 0, 99_999, 1000);
        most.add();
        Check.gives("a half below all", 100_000, () -> most.heatAt(2));
    }

    private static void leavesWholeOnes() {
        AlloyPlans x = ofTwoKilos(5, 7, 9, 1000);
        x.add();
        heatIs("6 and 7", x, 2, 6, 7, 1, 1);
        AlloyPlans all = ofTwoKilos(100_000, 100_000, 100_000, 1000);
        all.add();
        heatIs("all", all, 2, 100_000, 100_000, 1, 1);
        AlloyPlans none = new AlloyPlans();
        for (int element = 0; element < 4; element++) {
            none.present(element, 3 + element, 99_990 + element);
        }
        none.run(0);
        none.add();
        heatIs("an empty plan", none, 1, 3, 99_990, 4, 99_991, 5, 99_992, 6, 99_993, 0);
    }

    private static void forgetsWhatIsAdded() {
        AlloyPlans x = Check.withPlan();
        x.add();
        Check.planIsForgotten("behind an adding", x);
        Check.refuses("a plan is added once", Check.TURN, x::add);
        AlloyPlans empty = new AlloyPlans();
        empty.run(0);
        empty.add();
        Check.planIsForgotten("behind an adding of no steps", empty);
    }

    private static void countsCorrections() {
        AlloyPlans x = Check.withPlan();
        Check.gives("the first is none", 0, x::add);
        for (int i = 1; i < 5; i++) {
            x.present(0, 100, 200);
            x.run(100_000);
            Check.gives("corrections", i, x::add);
        }
        x.run(0);
        Check.gives("one of no steps", 5, x::add);
        AlloyPlans y = new AlloyPlans();
        y.run(0);
        Check.gives("the first, of no steps", 0, y::add);
        y.run(0);
        Check.gives("the next, of no steps", 1, y::add);
    }

    private static void staysBehindAsking() {
        AlloyPlans x = Check.withPlan();
        String before = Check.seen(x, 1);
        for (int far : Check.FAR_OUT) {
            Check.refuses("steps", Check.INDEX, () -> x.steps(far));
            Check.refuses("planned", Check.INDEX, () -> x.planned(far));
            Check.refuses("after", Check.INDEX, () -> x.after(far, 0, 0));
            Check.refuses("heatAt", Check.INDEX, () -> x.heatAt(far));
        }
        Check.refuses("order", Check.INDEX, () -> x.order(-1));
        Check.gives("order", 0, () -> x.order(0));
        Check.gives("order", -1, () -> x.order(1));
        Check.same("asked twice", before, Check.seen(x, 1));
    }

    private static void staysBehindARefusedAdd() {
        AlloyPlans x = new AlloyPlans();
        x.heat(65_536);
        x.kind(3, 1, 1);
        x.holds(0, 0, 100_000, 100_000);
        x.aim(0, 1, 100_000);
        x.run(0);
        String before = Check.seen(x, 1);
        Check.refuses("no room", Check.MEANING, x::add);
        Check.same("behind it", before, Check.seen(x, 1));
        Check.refuses("no room still", Check.MEANING, x::add);
    }

    private static void goesByTheNextRun() {
        AlloyPlans x = Check.withPlan();
        Check.gives("none within so little heat", 1, () -> x.run(11));
        Check.planIsForgotten("behind a run without one", x);
        Check.refuses("nothing to add", Check.TURN, x::add);
        Check.gives("one within enough", 0, () -> x.run(12));
        Check.planStands("behind a run with one", x);
        AlloyPlans y = new AlloyPlans();
        y.kind(1, 1, 12);
        y.kind(9, 1, 12);
        y.yields(0, 1000, 5);
        y.present(0, 90, 90);
        y.aim(0, 0, 30);
        y.run(10);
        Check.gives("two cheap steps", 2, () -> y.steps(0));
        y.run(9);
        Check.gives("one cheap step in the next plan", 1, () -> y.steps(0));
        Check.gives("one dear step in the next plan", 1, () -> y.steps(1));
        Check.gives("cents of the next plan", 10, () -> y.planned(0));
    }

    private static void staysBehindARefusedRun() {
        Check.refusedLeavesAll("below", Check.RANGE, x -> x.run(-1));
        Check.refusedLeavesAll("above", Check.RANGE, x -> x.run(100_000_001));
    }

    private static void goesByTelling(String name, Check.DeedOn telling) {
        Check.sentence("or anything of the heat or of kinds is told: " + name + ", though the same", () -> {
            AlloyPlans x = Check.withPlan();
            telling.happenOn(x);
            Check.planIsForgotten("told", x);
            Check.refuses("steps", Check.TURN, () -> x.steps(0));
            Check.refuses("order", Check.TURN, () -> x.order(0));
            Check.refuses("after", Check.TURN, () -> x.after(0, 0, 0));
            Check.refuses("add", Check.TURN, x::add);
            Check.gives("a further run", 0, () -> x.run(12));
            Check.gives("plans the same", 2, () -> x.steps(0));
        });
    }

    private static void staysBehindARefusedHeat() {
        Check.refusedLeavesAll("below", Check.RANGE, x -> x.heat(0));
        Check.refusedLeavesAll("above", Check.RANGE, x -> x.heat(65_537));
        AlloyPlans added = new AlloyPlans();
        added.run(0);
        added.add();
        added.run(0);
        Check.refuses("something was added", Check.TURN, () -> added.heat(1));
        Check.planStands("behind it", added);
    }

    private static void staysBehindARefusedPresent() {
        Check.refusedLeavesAll("no such element", Check.INDEX, x -> x.present(4, 0, 0));
        Check.refusedLeavesAll("no such element below", Check.INDEX, x -> x.present(-1, 0, 0));
        Check.refusedLeavesAll("low below", Check.RANGE, x -> x.present(0, -1, 0));
        Check.refusedLeavesAll("high above", Check.RANGE, x -> x.present(0, 1, 100_001));
        Check.refusedLeavesAll("low above high", Check.RANGE, x -> x.present(0, 2, 1));
    }

    private static void staysBehindARefusedAim() {
        Check.refusedLeavesAll("no such element", Check.INDEX, x -> x.aim(4, 0, 0));
        Check.refusedLeavesAll("no such element below", Check.INDEX, x -> x.aim(-1, 0, 0));
        Check.refusedLeavesAll("low below", Check.RANGE, x -> x.aim(0, -1, 0));
        Check.refusedLeavesAll("high above", Check.RANGE, x -> x.aim(0, 1, 100_001));
        Check.refusedLeavesAll("low above high", Check.RANGE, x -> x.aim(0, 2, 1));
    }

    private static void staysBehindARefusedKind() {
        Check.refusedLeavesAll("cents", Check.RANGE, x -> x.kind(100_001, 1, 1));
        Check.refusedLeavesAll("kilos", Check.RANGE, x -> x.kind(1, 0, 1));
        Check.refusedLeavesAll("steps", Check.RANGE, x -> x.kind(1, 1, 13));
        AlloyPlans x = Check.withPlan();
        Check.refuses("kind", Check.RANGE, () -> x.kind(1, 1, 13));
        Check.refuses("there is no kind more", Check.INDEX, () -> x.steps(1));
        AlloyPlans full = Check.withPlan();
        for (int kind = 1; kind < 4; kind++) {
            full.kind(1, 1, 0);
        }
        full.run(1000);
        String before = Check.seen(full, 4);
        Check.refuses("a fifth", Check.MEANING, () -> full.kind(0, 1, 12));
        Check.same("behind it", before, Check.seen(full, 4));
        full.run(1000);
        Check.same("behind a further run", before, Check.seen(full, 4));
    }

    private static void staysBehindARefusedHolds() {
        Check.refusedLeavesAll("no such kind", Check.INDEX, x -> x.holds(1, 0, 0, 0));
        Check.refusedLeavesAll("no such kind below", Check.INDEX, x -> x.holds(-1, 0, 0, 0));
        Check.refusedLeavesAll("no such element", Check.INDEX, x -> x.holds(0, 4, 0, 0));
        Check.refusedLeavesAll("no such element below", Check.INDEX, x -> x.holds(0, -1, 0, 0));
        Check.refusedLeavesAll("low below", Check.RANGE, x -> x.holds(0, 0, -1, 0));
        Check.refusedLeavesAll("high above", Check.RANGE, x -> x.holds(0, 0, 1, 100_001));
        Check.refusedLeavesAll("low above high", Check.RANGE, x -> x.holds(0, 0, 2, 1));
    }

    private static void staysBehindARefusedYields() {
        Check.refusedLeavesAll("no such kind", Check.INDEX, x -> x.yields(1, 0, 0));
        Check.refusedLeavesAll("no such kind below", Check.INDEX, x -> x.yields(-1, 0, 0));
        Check.refusedLeavesAll("yield below", Check.RANGE, x -> x.yields(0, -1, 0));
        Check.refusedLeavesAll("yield above", Check.RANGE, x -> x.yields(0, 1001, 0));
        Check.refusedLeavesAll("cooling below", Check.RANGE, x -> x.yields(0, 0, -1));
        Check.refusedLeavesAll("cooling above", Check.RANGE, x -> x.yields(0, 0, 1001));
    }
}
