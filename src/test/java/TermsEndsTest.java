/** The section 'Terms', its third paragraph: the ends of an element, and when it is met. */
public final class TermsEndsTest {
    public static void main(String[] args) {
        Check.sentence("With some steps of each kind in it the heat has its kilos and those of all steps",
                TermsEndsTest::allKilos);
        Check.sentence("AN ELEMENT'S LOW END is the heat's kilos times the present low, and for each kind its kilos"
                + " added times its low times its yield over 1,000, all summed, over all kilos", TermsEndsTest::lowEnd);
        Check.sentence("likewise the HIGH END", TermsEndsTest::highEnd);
        Check.sentence("its low .. over all kilos: without a step", TermsEndsTest::endsWithoutAStep);
        Check.sentence("its yield over 1,000: of 0", TermsEndsTest::endsWithoutAYield);
        Check.sentence("An element is MET when its low end is not below its aim's low", TermsEndsTest::metAtTheLowEnd);
        Check.sentence("and its high end not above its aim's high", TermsEndsTest::metAtTheHighEnd);
        Check.sentence("MET when .. : both ends at once", TermsEndsTest::metAtBothEnds);
        Check.sentence("MET when .. : each element by its own aim", TermsEndsTest::metByItsOwnAim);
        Check.end();
    }

    private static void has(AlloyPlans x, int element, int end, long upper, long lower) {
        Check.gives("upper", upper, () -> x.after(element, end, 0));
        Check.gives("lower", lower, () -> x.after(element, end, 1));
    }

    private static void allKilos() {
        AlloyPlans x = new AlloyPlans();
        x.heat(11);
        x.kind(1, 2, 1);
        x.kind(1, 3, 2);
        for (int kind = 0; kind < 2; kind++) {
            x.present(2 + kind, 1, 1);
            x.holds(kind, kind, 100_000, 100_000);
        }
        has(planned(x, 0, 0), 2, 0, 1, 1);
        has(planned(x, 1, 0), 2, 0, 11, 13);
        has(planned(x, 1, 1), 2, 0, 11, 16);
        has(planned(x, 1, 2), 2, 0, 11, 19);
    }

    private static AlloyPlans planned(AlloyPlans x, int steps0, int steps1) {
        int all = 11 + 2 * steps0 + 3 * steps1;
        x.aim(0, steps0 * 200_000 / all, 100_000);
        x.aim(1, steps1 * 300_000 / all, 100_000);
        Check.gives("run", 0, () -> x.run(0));
        Check.gives("steps of 0", steps0, () -> x.steps(0));
        Check.gives("steps of 1", steps1, () -> x.steps(1));
        return x;
    }

    /** Ten kilos, and one step of two kinds, of 3 and 4 kilos, as element 3 asks for both. */
    private static AlloyPlans ofTwoKinds() {
        AlloyPlans x = new AlloyPlans();
        x.heat(10);
        x.kind(1, 3, 1);
        x.kind(1, 4, 1);
        x.yields(0, 700, 0);
        x.yields(1, 900, 0);
        x.present(3, 17_000, 17_000);
        x.aim(3, 0, 10_000);
        x.present(0, 11, 13);
        x.holds(0, 0, 17, 19);
        x.holds(1, 0, 23, 29);
        Check.gives("run", 0, () -> x.run(0));
        return x;
    }

    private static void lowEnd() {
        has(ofTwoKinds(), 0, 0, (110_000 + 3 * 17 * 700 + 4 * 23 * 900) / 500, 34);
    }

    private static void highEnd() {
        has(ofTwoKinds(), 0, 1, (130_000 + 3 * 19 * 700 + 4 * 29 * 900) / 100, 170);
    }

    private static void endsWithoutAStep() {
        AlloyPlans x = new AlloyPlans();
        x.heat(65_536);
        x.kind(1, 1_000, 12);
        x.holds(0, 0, 100_000, 100_000);
        x.present(0, 3, 99_999);
        Check.gives("run", 0, () -> x.run(0));
        has(x, 0, 0, 3, 1);
        has(x, 0, 1, 99_999, 1);
    }

    private static void endsWithoutAYield() {
        AlloyPlans x = new AlloyPlans();
        x.kind(1, 1, 1);
        x.yields(0, 0, 0);
        x.holds(0, 0, 100_000, 100_000);
        x.present(0, 5, 100);
        x.aim(0, 0, 50);
        Check.gives("what it holds is lost, its kilos thin", 0, () -> x.run(0));
        has(x, 0, 0, 5, 2);
        has(x, 0, 1, 50, 1);
    }

    /** The greatest heat, that one kilo must be added to, with so much of element 0 in thousandths of a share. */
    private static AlloyPlans ofTheGreatestHeat(int low, int high) {
        AlloyPlans x = new AlloyPlans();
        x.heat(65_536);
        x.kind(1, 1, 1);
        x.yields(0, 1, 0);
        x.holds(0, 0, low, high);
        x.present(0, 1, 1);
        x.present(1, 100_000, 100_000);
        x.aim(1, 0, 99_999);
        return x;
    }

    private static void metAtTheLowEnd() {
        AlloyPlans same = ofTheGreatestHeat(1_000, 1_000);
        same.aim(0, 1, 100_000);
        Check.gives("just at it", 0, () -> same.run(0));
        has(same, 0, 0, 1, 1);
        AlloyPlans below = ofTheGreatestHeat(999, 1_000);
        below.aim(0, 1, 100_000);
        Check.gives("one part in 65,537,000 below", 2, () -> below.run(0));
        AlloyPlans above = ofTheGreatestHeat(1_001, 1_001);
        above.aim(0, 1, 100_000);
        Check.gives("one part above", 0, () -> above.run(0));
        has(above, 0, 0, 65_537_001, 65_537_000);
    }

    private static void metAtTheHighEnd() {
        AlloyPlans same = ofTheGreatestHeat(1_000, 1_000);
        same.aim(0, 0, 1);
        Check.gives("just at it", 0, () -> same.run(0));
        has(same, 0, 1, 1, 1);
        AlloyPlans above = ofTheGreatestHeat(1_000, 1_001);
        above.aim(0, 0, 1);
        Check.gives("one part in 65,537,000 above", 2, () -> above.run(0));
        AlloyPlans below = ofTheGreatestHeat(999, 999);
        below.aim(0, 0, 1);
        Check.gives("one part below", 0, () -> below.run(0));
        has(below, 0, 1, 65_536_999, 65_537_000);
    }

    private static void metAtBothEnds() {
        AlloyPlans x = new AlloyPlans();
        x.present(0, 400, 500);
        int[][] met = {{400, 500}, {0, 500}, {400, 100_000}, {0, 100_000}, {399, 501}};
        int[][] unmet = {{401, 500}, {400, 499}, {401, 499}, {500, 500}, {400, 400}, {501, 600}, {0, 399}};
        for (int[] aim : met) {
            x.aim(0, aim[0], aim[1]);
            Check.gives("met " + aim[0] + " " + aim[1], 0, () -> x.run(0));
        }
        for (int[] aim : unmet) {
            x.aim(0, aim[0], aim[1]);
            Check.gives("unmet " + aim[0] + " " + aim[1], 1, () -> x.run(0));
        }
    }

    private static void metByItsOwnAim() {
        for (int element = 0; element < 4; element++) {
            AlloyPlans x = new AlloyPlans();
            for (int other = 0; other < 4; other++) {
                x.present(other, 10 * other + 5, 10 * other + 6);
                x.aim(other, 10 * other + 5, 10 * other + 6);
            }
            Check.gives("all as they are", 0, () -> x.run(0));
            x.aim(element, 10 * element + 6, 10 * element + 6);
            Check.gives("below", 1 + element, () -> x.run(0));
            x.aim(element, 10 * element + 5, 10 * element + 5);
            Check.gives("above", 1 + element, () -> x.run(0));
        }
    }
}
