import java.math.BigInteger;

/** Promise 12: after. */
public final class AfterTest {
    public static void main(String[] args) {
        Check.sentence("after: An element's end by the plan (0 low, 1 high)", AfterTest::tellsBothEnds);
        Check.sentence("after: in lowest terms: part 0 the upper, 1 the lower number", AfterTest::tellsLowestTerms);
        Check.sentence("after: in lowest terms: of 0", AfterTest::tellsNothing);
        Check.sentence("after: in lowest terms: of a whole number", AfterTest::tellsWholeNumbers);
        Check.sentence("after: in lowest terms: of the greatest", AfterTest::tellsGreatNumbers);
        Check.sentence("after: Index: no such element", AfterTest::refusesNoSuchElement);
        Check.sentence("after: Index: no such .. end", AfterTest::refusesNoSuchEnd);
        Check.sentence("after: Index: no such .. part", AfterTest::refusesNoSuchPart);
        Check.sentence("after: turn: there is no plan", AfterTest::refusesWithoutAPlan);
        Check.end();
    }

    private static void has(AlloyPlans x, int element, long... due) {
        for (int i = 0; i < 4; i++) {
            int place = i;
            Check.gives("after " + element + " " + place / 2 + " " + place % 2, due[place],
                    () -> x.after(element, place / 2, place % 2));
        }
    }

    private static void tellsBothEnds() {
        AlloyPlans x = Check.withPlan();
        has(x, 0, 13_750, 13, 17_500, 13);
        x.present(1, 7, 9);
        x.run(1000);
        has(x, 1, 175, 26, 225, 26);
    }

    private static void tellsLowestTerms() {
        AlloyPlans y = new AlloyPlans();
        y.heat(3);
        y.present(0, 1, 1);
        y.kind(0, 1, 1);
        y.holds(0, 0, 1, 2);
        y.yields(0, 333, 0);
        y.present(2, 4, 4);
        y.aim(2, 0, 3);
        Check.gives("run", 0, () -> y.run(0));
        has(y, 0, 3333, 4000, 1833, 2000);
        has(y, 2, 3, 1, 3, 1);
    }

    private static void tellsNothing() {
        AlloyPlans x = Check.withPlan();
        has(x, 1, 0, 1, 0, 1);
        has(x, 3, 0, 1, 0, 1);
        AlloyPlans y = new AlloyPlans();
        y.heat(65_536);
        y.run(0);
        has(y, 0, 0, 1, 0, 1);
    }

    private static void tellsWholeNumbers() {
        AlloyPlans x = new AlloyPlans();
        x.heat(65_535);
        x.present(0, 0, 100_000);
        x.present(3, 1, 99_999);
        x.run(0);
        has(x, 0, 0, 1, 100_000, 1);
        has(x, 3, 1, 1, 99_999, 1);
    }

    private static void tellsGreatNumbers() {
        AlloyPlans x = new AlloyPlans();
        x.heat(65_536);
        x.present(0, 99_991, 99_991);
        for (int kind = 0; kind < 4; kind++) {
            x.kind(1, 997, 12);
            x.holds(kind, 0, 99_989, 99_999);
            x.yields(kind, 997, 0);
        }
        x.aim(0, 0, 99_868);
        Check.gives("run", 0, () -> x.run(0));
        long steps = x.steps(0) + x.steps(1) + x.steps(2) + x.steps(3);
        Check.same("many steps", "48", Long.toString(steps));
        long low = 65_536L * 99_991 * 1000 + 48L * 997 * 99_989 * 997;
        long high = 65_536L * 99_991 * 1000 + 48L * 997 * 99_999 * 997;
        long whole = 1000L * (65_536 + 48 * 997);
        BigInteger all = BigInteger.valueOf(whole);
        long lowBy = all.gcd(BigInteger.valueOf(low)).longValue();
        long highBy = all.gcd(BigInteger.valueOf(high)).longValue();
        has(x, 0, low / lowBy, whole / lowBy, high / highBy, whole / highBy);
    }

    private static void refusesNoSuchElement() {
        AlloyPlans x = Check.withPlan();
        Check.refuses("element -1", Check.INDEX, () -> x.after(-1, 0, 0));
        Check.refuses("element -1, high", Check.INDEX, () -> x.after(-1, 1, 0));
        Check.refuses("element 4", Check.INDEX, () -> x.after(4, 0, 0));
        for (int far : Check.FAR_OUT) {
            Check.refuses("element " + far, Check.INDEX, () -> x.after(far, 0, 0));
        }
    }

    private static void refusesNoSuchEnd() {
        AlloyPlans x = Check.withPlan();
        Check.refuses("end -1", Check.INDEX, () -> x.after(1, -1, 0));
        Check.refuses("end 2", Check.INDEX, () -> x.after(0, 2, 0));
        for (int far : Check.FAR_OUT) {
            Check.refuses("end " + far, Check.INDEX, () -> x.after(0, far, 0));
        }
    }

    private static void refusesNoSuchPart() {
        AlloyPlans x = Check.withPlan();
        Check.refuses("part -1", Check.INDEX, () -> x.after(0, 0, -1));
        Check.refuses("part 2", Check.INDEX, () -> x.after(0, 0, 2));
        for (int far : Check.FAR_OUT) {
            Check.refuses("part " + far, Check.INDEX, () -> x.after(0, 0, far));
        }
    }

    private static void refusesWithoutAPlan() {
        AlloyPlans x = Check.withPlan();
        x.aim(3, 0, 0);
        for (int i = 0; i < 16; i++) {
            int place = i;
            Check.refuses("after", Check.TURN, () -> x.after(place / 4, place / 2 % 2, place % 2));
        }
    }
}
