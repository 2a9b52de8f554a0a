/** The section 'Terms', its first two paragraphs: the spans of all numbers, and what stands at first. */
public final class TermsSpansTest {
    public static void main(String[] args) {
        Check.sentence("ELEMENTS 0 .. 3", TermsSpansTest::elements);
        Check.sentence("SHARES are thousandths of a percent (0 .. 100,000)", TermsSpansTest::shares);
        Check.sentence("A HEAT has KILOS (1 .. 65,536", TermsSpansTest::kilosOfTheHeat);
        Check.sentence("KILOS (..; 1 at first)", TermsSpansTest::kilosAtFirst);
        Check.sentence("a PRESENT span of shares (low not above high", TermsSpansTest::lowNotAboveHigh);
        Check.sentence("a PRESENT span (..; 0 .. 0 at first)", TermsSpansTest::presentAtFirst);
        Check.sentence("an AIM (0 .. 100,000 at first)", TermsSpansTest::aimAtFirst);
        Check.sentence("KINDS of alloys 0, 1, .. (at most 4)", TermsSpansTest::kinds);
        Check.sentence("CENTS .. for each step (0 .. 100,000", TermsSpansTest::centsOfAStep);
        Check.sentence("KILOS for each step (..; 1 .. 1,000)", TermsSpansTest::kilosOfAStep);
        Check.sentence("at most so many STEPS (0 .. 12)", TermsSpansTest::steps);
        Check.sentence("for each element a span of shares (0 .. 0 at first)", TermsSpansTest::heldAtFirst);
        Check.sentence("a YIELD (0 .. 1,000 thousandths of what they hold stay", TermsSpansTest::yieldOfAKind);
        Check.sentence("a YIELD (..; 1,000 at first)", TermsSpansTest::yieldAtFirst);
        Check.sentence("COOL by so much for each kilo (0 .. 1,000", TermsSpansTest::coolingOfAKind);
        Check.sentence("COOL (..; 0 at first)", TermsSpansTest::coolingAtFirst);
        Check.end();
    }

    private static void takes(String told, Check.Deed deed) {
        Check.same(told, "done", Check.outcome(deed));
    }

    private static void elements() {
        for (int element : new int[] {0, 3}) {
            AlloyPlans x = Check.withPlan();
            Check.gives("after of " + element, element == 0 ? 13 : 1, () -> x.after(element, 0, 1));
            takes("present of " + element, () -> x.present(element, 0, 1));
            takes("aim of " + element, () -> x.aim(element, 0, 1));
            takes("holds of " + element, () -> x.holds(0, element, 0, 1));
        }
        for (int element : new int[] {-1, 4}) {
            AlloyPlans x = Check.withPlan();
            Check.refuses("present of " + element, Check.INDEX, () -> x.present(element, 0, 1));
            Check.refuses("aim of " + element, Check.INDEX, () -> x.aim(element, 0, 1));
            Check.refuses("holds of " + element, Check.INDEX, () -> x.holds(0, element, 0, 1));
            Check.refuses("after of " + element, Check.INDEX, () -> x.after(element, 0, 1));
        }
    }

    private static void shares() {
        AlloyPlans x = Check.withPlan();
        int[][] taken = {{0, 0}, {0, 1}, {99_999, 100_000}, {100_000, 100_000}, {0, 100_000}};
        int[][] refused = {{-1, 0}, {-1, 100_000}, {0, 100_001}, {100_000, 100_001}, {100_001, 100_001}, {-1, -1}};
        for (int[] span : taken) {
            String told = " " + span[0] + " .. " + span[1];
            takes("present" + told, () -> x.present(1, span[0], span[1]));
            takes("aim" + told, () -> x.aim(1, span[0], span[1]));
            takes("holds" + told, () -> x.holds(0, 1, span[0], span[1]));
        }
        for (int[] span : refused) {
            String told = " " + span[0] + " .. " + span[1];
            Check.refuses("present" + told, Check.RANGE, () -> x.present(1, span[0], span[1]));
            Check.refuses("aim" + told, Check.RANGE, () -> x.aim(1, span[0], span[1]));
            Check.refuses("holds" + told, Check.RANGE, () -> x.holds(0, 1, span[0], span[1]));
        }
    }

    private static void kilosOfTheHeat() {
        AlloyPlans x = new AlloyPlans();
        for (int kilos : new int[] {65_536, 1}) {
            takes("heat of " + kilos, () -> x.heat(kilos));
            Check.gives("kilos", kilos, () -> x.heatAt(0));
        }
        for (int kilos : new int[] {0, 65_537}) {
            Check.refuses("heat of " + kilos, Check.RANGE, () -> x.heat(kilos));
        }
    }

    private static void kilosAtFirst() {
        AlloyPlans x = new AlloyPlans();
        Check.gives("kilos", 1, () -> x.heatAt(0));
        x.present(0, 100_000, 100_000);
        x.aim(0, 0, 50_000);
        x.kind(1, 1, 12);
        x.run(0);
        Check.gives("one kilo is thinned to half by one more", 1, () -> x.steps(0));
    }

    private static void lowNotAboveHigh() {
        AlloyPlans x = new AlloyPlans();
        takes("the same", () -> x.present(0, 7, 7));
        Check.refuses("one above", Check.RANGE, () -> x.present(0, 8, 7));
        Check.refuses("all above", Check.RANGE, () -> x.present(0, 100_000, 0));
        Check.gives("low", 7, () -> x.heatAt(1));
        Check.gives("high", 7, () -> x.heatAt(2));
    }

    private static void presentAtFirst() {
        AlloyPlans x = new AlloyPlans();
        for (int i = 1; i <= 8; i++) {
            int what = i;
            Check.gives("heatAt " + what, 0, () -> x.heatAt(what));
        }
        for (int i = 0; i < 4; i++) {
            int element = i;
            x.aim(element, 0, 0);
            Check.gives("nothing is present of " + element, 0, () -> x.run(0));
            x.aim(element, 1, 100_000);
            Check.gives("not one thousandth of " + element, 1 + element, () -> x.run(0));
            x.aim(element, 0, 0);
        }
    }

    private static void aimAtFirst() {
        for (int element = 0; element < 4; element++) {
            AlloyPlans x = new AlloyPlans();
            x.present(element, 0, 100_000);
            Check.gives("none, and all, of " + element + " are fine", 0, () -> x.run(0));
        }
    }

    private static void kinds() {
        AlloyPlans x = new AlloyPlans();
        Check.refuses("no kind 0 yet", Check.INDEX, () -> x.holds(0, 0, 0, 0));
        for (int i = 0; i < 4; i++) {
            int number = i;
            Check.gives("kind", number, () -> x.kind(1, 1, 1));
            takes("kind " + number + " is there", () -> x.holds(number, 0, 0, 0));
            Check.refuses("the next is not", Check.INDEX, () -> x.holds(number + 1, 0, 0, 0));
        }
        Check.refuses("a fifth", Check.MEANING, () -> x.kind(1, 1, 1));
    }

    /** A heat that asks for one step of its only kind. */
    private static AlloyPlans ofOneStep(int cents, int kilos) {
        AlloyPlans x = new AlloyPlans();
        x.kind(cents, kilos, 1);
        x.holds(0, 0, 100_000, 100_000);
        x.aim(0, 1, 100_000);
        Check.gives("run", 0, () -> x.run(0));
        return x;
    }

    private static void centsOfAStep() {
        for (int cents : new int[] {0, 100_000}) {
            AlloyPlans x = ofOneStep(cents, 1);
            Check.gives("cents", cents, () -> x.planned(0));
        }
        AlloyPlans x = new AlloyPlans();
        Check.refuses("below", Check.RANGE, () -> x.kind(-1, 1, 1));
        Check.refuses("above", Check.RANGE, () -> x.kind(100_001, 1, 1));
    }

    private static void kilosOfAStep() {
        for (int kilos : new int[] {1, 1_000}) {
            AlloyPlans x = ofOneStep(1, kilos);
            Check.gives("kilos", kilos, () -> x.planned(1));
        }
        AlloyPlans x = new AlloyPlans();
        Check.refuses("below", Check.RANGE, () -> x.kind(1, 0, 1));
        Check.refuses("above", Check.RANGE, () -> x.kind(1, 1_001, 1));
    }

    private static void steps() {
        for (int steps : new int[] {0, 1, 12}) {
            AlloyPlans x = new AlloyPlans();
            x.present(0, 100_000, 100_000);
            x.kind(1, 1, steps);
            x.aim(0, 0, (100_000 + steps) / (1 + steps));
            Check.gives("all steps", 0, () -> x.run(0));
            Check.gives("so many", steps, () -> x.steps(0));
            x.aim(0, 0, 100_000 / (2 + steps) + 1);
            Check.gives("one more is not to be had", 1, () -> x.run(0));
        }
        AlloyPlans x = new AlloyPlans();
        Check.refuses("below", Check.RANGE, () -> x.kind(1, 1, -1));
        Check.refuses("above", Check.RANGE, () -> x.kind(1, 1, 13));
    }

    private static void heldAtFirst() {
        for (int number = 0; number < 4; number++) {
            AlloyPlans x = new AlloyPlans();
            for (int kind = 0; kind <= number; kind++) {
                x.kind(1, 1, kind == number ? 1 : 0);
            }
            for (int element = 0; element < 4; element++) {
                x.present(element, 100, 100);
                x.aim(element, 50, 50);
            }
            Check.gives("one step halves all elements", 0, () -> x.run(0));
            Check.gives("one step", 1, () -> x.planned(1));
            for (int i = 0; i < 8; i++) {
                int place = i;
                Check.gives("end", 50, () -> x.after(place / 2, place % 2, 0));
            }
        }
    }

    private static void yieldOfAKind() {
        AlloyPlans x = new AlloyPlans();
        x.kind(1, 1, 1);
        x.holds(0, 0, 2_000, 2_000);
        x.aim(0, 1, 100_000);
        takes("none stays", () -> x.yields(0, 0, 0));
        Check.gives("none of it", 1, () -> x.run(0));
        takes("one thousandth stays", () -> x.yields(0, 1, 0));
        Check.gives("a thousandth of it", 0, () -> x.run(0));
        Check.gives("1 over 1", 1, () -> x.after(0, 0, 0));
        takes("all stays", () -> x.yields(0, 1_000, 0));
        Check.gives("all of it", 0, () -> x.run(0));
        Check.gives("1000 over 1", 1_000, () -> x.after(0, 0, 0));
        Check.refuses("below", Check.RANGE, () -> x.yields(0, -1, 0));
        Check.refuses("above", Check.RANGE, () -> x.yields(0, 1_001, 0));
    }

    private static void yieldAtFirst() {
        for (int number = 0; number < 4; number++) {
            AlloyPlans x = new AlloyPlans();
            for (int kind = 0; kind <= number; kind++) {
                x.kind(1, 1, kind == number ? 1 : 0);
            }
            x.holds(number, 0, 100_000, 100_000);
            x.aim(0, 50_000, 50_000);
            Check.gives("all of what kind " + number + " holds stays", 0, () -> x.run(0));
        }
    }

    private static void coolingOfAKind() {
        AlloyPlans x = new AlloyPlans();
        x.kind(1, 3, 1);
        x.holds(0, 0, 100_000, 100_000);
        x.aim(0, 1, 100_000);
        takes("none", () -> x.yields(0, 1_000, 0));
        Check.gives("without heat left", 0, () -> x.run(0));
        Check.gives("cooling", 0, () -> x.planned(3));
        takes("most", () -> x.yields(0, 1_000, 1_000));
        Check.gives("too little heat left", 1, () -> x.run(2_999));
        Check.gives("enough", 0, () -> x.run(3_000));
        Check.gives("cooling for each of three kilos", 3_000, () -> x.planned(3));
        Check.refuses("below", Check.RANGE, () -> x.yields(0, 1_000, -1));
        Check.refuses("above", Check.RANGE, () -> x.yields(0, 1_000, 1_001));
    }

    private static void coolingAtFirst() {
        AlloyPlans x = new AlloyPlans();
        for (int kind = 0; kind < 4; kind++) {
            x.kind(1, 1_000, 1);
            x.holds(kind, kind, 100_000, 100_000);
            x.aim(kind, 1, 100_000);
        }
        Check.gives("run without heat left", 0, () -> x.run(0));
        Check.gives("all kinds", 4, () -> x.planned(2));
        Check.gives("cooling", 0, () -> x.planned(3));
    }
}
