import java.util.Arrays;

/**
 * 'A PLAN for so much HEAT LEFT': the aims lie round the ends of a hidden mixture and the heat left round its cooling,
 * so that plans of three and four kinds, ends met exactly and plans of the same cents come often; mixed calls seldom
 * have them. Each answer is the plain model's.
 */
public final class HiddenMixTest {
    private static final int HEATS = 2_500;
    private static final int PLANS_OF_A_HEAT = 3;
    private static final int ENOUGH = 150;

    private long state;
    private final int[] plansOfKinds = new int[5];
    private final int[] named = new int[4];
    private int corrections = 0;

    private HiddenMixTest(long seed) {
        state = seed;
    }

    public static void main(String[] args) {
        HiddenMixTest test = new HiddenMixTest(20_261_116L);
        Check.sentence("A PLAN for so much HEAT LEFT: aims round the ends of a hidden mixture", test::playAll);
        Check.sentence("A PLAN for so much HEAT LEFT: plans of each number of kinds were seen", test::sawMuch);
        Check.end();
    }

    private int below(int bound) {
        state = state * 6_364_136_223_846_793_005L + 1_442_695_040_888_963_407L;
        return (int) ((state >>> 33) % bound);
    }

    private int oneOf(int... numbers) {
        return numbers[below(numbers.length)];
    }

    private void playAll() {
        for (int heat = 0; heat < HEATS; heat++) {
            play("heat " + heat, heat % 250 == 0 ? 12 : oneOf(1, 2, 3, 4));
        }
    }

    private void play(String told, int mostSteps) {
        AlloyPlans x = new AlloyPlans();
        PlainModel y = new PlainModel();
        tellHeat(x, y);
        int[] most = new int[4];
        for (int kind = 0; kind < 4; kind++) {
            most[kind] = 1 + below(mostSteps);
            tellKind(kind, most[kind], x, y);
        }
        for (int plan = 0; plan < PLANS_OF_A_HEAT; plan++) {
            String toldPlan = told + " plan " + plan;
            int[] hidden = new int[4];
            for (int kind = 0; kind < 4; kind++) {
                hidden[kind] = below(most[kind] + 1);
            }
            tellAims(hidden, x, y);
            int heatLeft = Math.max(0, y.cooling(hidden) + oneOf(0, 0, 0, -1, 1_000));
            String answer = same(toldPlan + " run " + heatLeft, () -> x.run(heatLeft), () -> y.run(heatLeft));
            note(answer, y);
            askAll(toldPlan, x, y);
            same(toldPlan + " add", x::add, y::add);
            askHeat(toldPlan, x, y);
            corrections += plan > 0 && answer.equals("0") ? 1 : 0;
        }
    }

    private void tellHeat(AlloyPlans x, PlainModel y) {
        int kilos = oneOf(1 + below(40), 1 + below(5_000), 65_536 - below(50));
        x.heat(kilos);
        y.heat(kilos);
        for (int element = 0; element < 4; element++) {
            int low = below(oneOf(1, 50, 5_000));
            int high = low + below(oneOf(1, 1, 20));
            x.present(element, low, high);
            y.present(element, low, high);
        }
    }

    /** Each kind holds most of one element, and cents are few, so that no kind is spared and costs are often the same. */
    private void tellKind(int kind, int steps, AlloyPlans x, PlainModel y) {
        int cents = below(4);
        int kilos = oneOf(1, 1 + below(5), 1 + below(1_000));
        x.kind(cents, kilos, steps);
        y.kind(cents, kilos, steps);
        for (int element = 0; element < 4; element++) {
            int low = element == kind ? 20_000 + below(60_000) : below(oneOf(1, 2_000));
            int high = low + below(oneOf(1, 1, 500));
            int of = element;
            x.holds(kind, of, low, high);
            y.holds(kind, of, low, high);
        }
        int thousandths = oneOf(1_000, 1_000, 997, 500, 1);
        int cooling = below(oneOf(1, 3, 1_001));
        x.yields(kind, thousandths, cooling);
        y.yields(kind, thousandths, cooling);
    }

    private void tellAims(int[] hidden, AlloyPlans x, PlainModel y) {
        long all = 1_000L * y.allKilos(hidden);
        for (int element = 0; element < 4; element++) {
            // Now and then rounded inwards: then the hidden mixture itself does not do.
            long low = (y.upper(hidden, element, 0) + (below(20) == 0 ? all - 1 : 0)) / all;
            long high = (y.upper(hidden, element, 1) + (below(20) == 0 ? 0 : all - 1)) / all;
            int wider = oneOf(0, 0, 1, 3_000);
            int aimLow = below(6) == 0 ? 0 : (int) Math.max(0, low - wider);
            int aimHigh = below(3) == 0 ? (int) Math.max(aimLow, Math.min(100_000, high + wider)) : 100_000;
            x.aim(element, aimLow, aimHigh);
            y.aim(element, aimLow, aimHigh);
        }
    }

    private void note(String answer, PlainModel y) {
        if (answer.equals("0")) {
            plansOfKinds[y.planned(2)]++;
        } else {
            named[Integer.parseInt(answer) - 1]++;
        }
    }

    private static void askAll(String told, AlloyPlans x, PlainModel y) {
        for (int i = 0; i < 5; i++) {
            int number = i;
            same(told + " steps " + number, () -> x.steps(number), () -> y.steps(number));
            same(told + " planned " + number, () -> x.planned(number), () -> y.planned(number));
            same(told + " order " + number, () -> x.order(number), () -> y.order(number));
        }
        for (int i = 0; i < 16; i++) {
            int place = i;
            same(told + " after, place " + place, () -> x.after(place / 4, place / 2 % 2, place % 2),
                    () -> y.after(place / 4, place / 2 % 2, place % 2));
        }
    }

    private static void askHeat(String told, AlloyPlans x, PlainModel y) {
        for (int i = 0; i < 10; i++) {
            int what = i;
            same(told + " heatAt " + what, () -> x.heatAt(what), () -> y.heatAt(what));
        }
    }

    private static String same(String told, Check.Call got, Check.Call want) {
        String due = Check.outcome(want);
        Check.same(told, due, Check.outcome(got));
        return due;
    }

    private void sawMuch() {
        System.out.println("plans of 0 to 4 kinds " + Arrays.toString(plansOfKinds) + ", named "
                + Arrays.toString(named) + ", corrections " + corrections);
        boolean isMuch = corrections >= ENOUGH;
        for (int count : plansOfKinds) {
            isMuch = isMuch && count >= ENOUGH;
        }
        Check.same("the heats saw", "much", isMuch ? "much" : "little");
    }
}
