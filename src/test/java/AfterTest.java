/** Promise 12: after. */
public final class AfterTest {
    public static void main(String[] args) {
        tellsLowestTerms();
        tellsGreatNumbers();
        refuses();
        Check.end();
    }

    private static void has(AlloyPlans x, int element, long... due) {
        for (int i = 0; i < 4; i++) {
            int place = i;
            Check.gives("after " + element + " " + place / 2 + " " + place % 2, due[place],
                    () -> x.after(element, place / 2, place % 2));
        }
    }

    private static void tellsLowestTerms() {
        AlloyPlans x = Check.withPlan();
        has(x, 0, 13_750, 13, 17_500, 13);
        has(x, 1, 0, 1, 0, 1);
        x.present(1, 7, 9);
        x.present(3, 100_000, 100_000);
        x.run(1000);
        has(x, 1, 175, 26, 225, 26);
        has(x, 3, 1_250_000, 13, 1_250_000, 13);
        AlloyPlans y = new AlloyPlans();
        y.heat(3);
        y.present(0, 1, 1);
        y.kind(0, 1, 1);
        y.holds(0, 0, 1, 2);
        y.yields(0, 333, 0);
        y.aim(1, 0, 0);
        y.present(2, 4, 4);
        y.aim(2, 0, 3);
        Check.gives("run", 0, () -> y.run(0));
        has(y, 0, 3333, 4000, 1833, 2000);
        has(y, 2, 3, 1, 3, 1);
    }

    private static void tellsGreatNumbers() {
        AlloyPlans x = new AlloyPlans();
        x.heat(65_536);
        x.present(0, 99_991, 99_991);
        for (int kind = 0; kind < 4; kind++) {
            x.kind(1, 997, 12);
            x.holds(kind, 0, 99_989, 99_999);
            x.yields(kind, 997, 0);
        }
        x.aim(0, 0, 99_868);
        Check.gives("run", 0, () -> x.run(0));
        long steps = x.steps(0) + x.steps(1) + x.steps(2) + x.steps(3);
        Check.same("many steps", "48", Long.toString(steps));
        long low = 65_536L * 99_991 * 1000 + 48L * 997 * 99_989 * 997;
        long high = 65_536L * 99_991 * 1000 + 48L * 997 * 99_999 * 997;
        long whole = 1000L * (65_536 + 48 * 997);
        java.math.BigInteger all = java.math.BigInteger.valueOf(whole);
        long lowBy = all.gcd(java.math.BigInteger.valueOf(low)).longValue();
        long highBy = all.gcd(java.math.BigInteger.valueOf(high)).longValue();
        has(x, 0, low / lowBy, whole / lowBy, high / highBy, whole / highBy);
    }

    private static void refuses() {
        AlloyPlans x = Check.withPlan();
        refusesIndexes(x);
        x.aim(3, 0, 0);
        refusesIndexes(x);
        for (int i = 0; i < 16; i++) {
            int place = i;
            Check.refuses("no plan", Check.TURN, () -> x.after(place / 4, place / 2 % 2, place % 2));
        }
    }

    private static void refusesIndexes(AlloyPlans x) {
        Check.refuses("element 4", Check.INDEX, () -> x.after(4, 0, 0));
        Check.refuses("end 2", Check.INDEX, () -> x.after(0, 2, 0));
        Check.refuses("part 2", Check.INDEX, () -> x.after(0, 0, 2));
        for (int far : Check.FAR_OUT) {
            Check.refuses("element " + far, Check.INDEX, () -> x.after(far, 0, 0));
            Check.refuses("end " + far, Check.INDEX, () -> x.after(0, far, 0));
            Check.refuses("part " + far, Check.INDEX, () -> x.after(0, 0, far));
        }
    }
}
