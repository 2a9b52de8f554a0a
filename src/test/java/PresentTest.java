/** Promise 3: present. */
public final class PresentTest {
    public static void main(String[] args) {
        Check.sentence("present: what is present at first", PresentTest::tellsEachElementApart);
        Check.sentence("present: A sample", PresentTest::tellsASampleBehindAnAdding);
        Check.sentence("present: Index: no such element", () -> SpanChecks.noSuchElement(AlloyPlans::present));
        Check.sentence("present: range: shares", () -> SpanChecks.sharesOutOfRange(AlloyPlans::present));
        Check.sentence("present: range: low above high", () -> SpanChecks.lowAboveHigh(AlloyPlans::present));
        Check.end();
    }

    private static void tellsEachElementApart() {
        AlloyPlans x = new AlloyPlans();
        for (int element = 0; element < 4; element++) {
            x.present(element, 10 + element, 20 + 2 * element);
        }
        for (int i = 0; i < 4; i++) {
            int element = i;
            Check.gives("low " + element, 10 + element, () -> x.heatAt(1 + 2 * element));
            Check.gives("high " + element, 20 + 2 * element, () -> x.heatAt(2 + 2 * element));
        }
        x.present(2, 0, 100_000);
        Check.gives("low told anew", 0, () -> x.heatAt(5));
        Check.gives("high told anew", 100_000, () -> x.heatAt(6));
        Check.gives("the one before it stays", 22, () -> x.heatAt(4));
        Check.gives("the one behind it stays", 13, () -> x.heatAt(7));
    }

    private static void tellsASampleBehindAnAdding() {
        AlloyPlans x = Check.withPlan();
        x.add();
        x.present(0, 900, 3001);
        Check.gives("sampled low", 900, () -> x.heatAt(1));
        Check.gives("sampled high", 3001, () -> x.heatAt(2));
        Check.gives("kilos stay", 104, () -> x.heatAt(0));
        Check.gives("cents stay", 20, () -> x.heatAt(9));
        Check.gives("a correction for the low end", 1, () -> x.run(0));
        x.present(0, 900, 1000);
        Check.gives("a correction", 0, () -> x.run(1000));
        Check.gives("its steps", 1, () -> x.steps(0));
        Check.gives("corrections", 1, x::add);
    }
}
