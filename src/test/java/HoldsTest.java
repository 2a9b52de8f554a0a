/** Promise 6: holds. */
public final class HoldsTest {
    public static void main(String[] args) {
        SpanChecks.Telling ofKind0 = (x, element, low, high) -> x.holds(0, element, low, high);
        Check.sentence("holds: A kind's shares of an element", HoldsTest::tellsEachKindAndElementApart);
        Check.sentence("holds: Index: no such kind", HoldsTest::refusesNoSuchKind);
        Check.sentence("holds: Index: no such .. element", () -> SpanChecks.noSuchElement(ofKind0));
        Check.sentence("holds: range: likewise (shares)", () -> SpanChecks.sharesOutOfRange(ofKind0));
        Check.sentence("holds: range: likewise (low above high)", () -> SpanChecks.lowAboveHigh(ofKind0));
        Check.end();
    }

    private static void tellsEachKindAndElementApart() {
        AlloyPlans x = new AlloyPlans();
        x.kind(1, 1, 1);
        x.kind(1, 1, 1);
        x.holds(0, 1, 1000, 3000);
        x.holds(1, 2, 5000, 7000);
        x.aim(1, 1, 100_000);
        x.aim(2, 1, 100_000);
        Check.gives("both are needed", 0, () -> x.run(0));
        Check.gives("kinds", 2, () -> x.planned(2));
        long[][] due = {{0, 1, 0, 1}, {1000, 3, 1000, 1}, {5000, 3, 7000, 3}, {0, 1, 0, 1}};
        for (int i = 0; i < 4; i++) {
            int element = i;
            for (int j = 0; j < 4; j++) {
                int place = j;
                Check.gives("after " + element + " " + place, due[element][place],
                        () -> x.after(element, place / 2, place % 2));
            }
        }
        x.holds(0, 1, 0, 0);
        Check.gives("told anew", 2, () -> x.run(0));
    }

    private static void refusesNoSuchKind() {
        AlloyPlans x = Check.withPlan();
        for (int kind : new int[] {-1, 1, 2, 3, 4, 5}) {
            refusesKind(x, kind);
        }
        for (int kind : Check.FAR_OUT) {
            refusesKind(x, kind);
        }
        x.kind(1, 1, 1);
        Check.same("kind 1 when it is there", "done", Check.outcome(() -> x.holds(1, 0, 0, 0)));
        Check.refuses("kind 2 still not", Check.INDEX, () -> x.holds(2, 0, 0, 0));
    }

    private static void refusesKind(AlloyPlans x, int kind) {
        Check.refuses("holds of kind " + kind, Check.INDEX, () -> x.holds(kind, 0, 0, 0));
        Check.refuses("holds of kind " + kind + " and no element", Check.INDEX, () -> x.holds(kind, 4, 0, 0));
    }
}
