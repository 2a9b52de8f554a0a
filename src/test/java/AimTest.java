/** Promise 4: aim. */
public final class AimTest {
    public static void main(String[] args) {
        Check.sentence("aim: An aim", AimTest::asksOfEachElementApart);
        Check.sentence("aim: An aim: not what is present", AimTest::leavesWhatIsPresent);
        Check.sentence("aim: Likewise. (Index: no such element)", () -> SpanChecks.noSuchElement(AlloyPlans::aim));
        Check.sentence("aim: Likewise. (range: shares)", () -> SpanChecks.sharesOutOfRange(AlloyPlans::aim));
        Check.sentence("aim: Likewise. (range: low above high)", () -> SpanChecks.lowAboveHigh(AlloyPlans::aim));
        Check.end();
    }

    private static void asksOfEachElementApart() {
        for (int element = 0; element < 4; element++) {
            AlloyPlans x = new AlloyPlans();
            x.aim(element, 1, 5);
            Check.gives("named " + element, 1 + element, () -> x.run(0));
            x.aim(element, 0, 0);
            Check.gives("told anew, met again " + element, 0, () -> x.run(0));
            x.aim(element, 100_000, 100_000);
            Check.gives("all asked of " + element, 1 + element, () -> x.run(0));
            x.present(element, 100_000, 100_000);
            Check.gives("all present of " + element, 0, () -> x.run(0));
            x.aim(element, 0, 99_999);
            Check.gives("not all asked of " + element, 1 + element, () -> x.run(0));
        }
    }

    private static void leavesWhatIsPresent() {
        AlloyPlans x = Check.withPlan();
        x.aim(0, 7, 8);
        Check.gives("low", 100, () -> x.heatAt(1));
        Check.gives("high", 200, () -> x.heatAt(2));
    }
}
