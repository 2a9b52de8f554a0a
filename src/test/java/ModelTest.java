/** All promises: many runs of mixed calls, right and wrong ones, each answered as the plain model answers it. */
public final class ModelTest {
    private static final int RUNS = 1_000;
    private static final int CALLS = 512;
    /** So many calls only tell, so that there is something to plan with. */
    private static final int OPENING = 40;

    private long state;
    private int plansFound = 0;
    private int plansOfTwo = 0;
    private final int[] named = new int[4];
    private int addings = 0;
    private int overfull = 0;

    private ModelTest(long seed) {
        state = seed;
    }

    public static void main(String[] args) {
        ModelTest test = new ModelTest(20_261_115L);
        Check.sentence("all promises: mixed runs of 512 calls", () -> {
            for (int run = 0; run < RUNS; run++) {
                test.play(run);
            }
        });
        Check.sentence("all promises: the mixed runs saw much", test::tellsWhetherItSawMuch);
        Check.end();
    }

    private int below(int bound) {
        state = state * 6_364_136_223_846_793_005L + 1_442_695_040_888_963_407L;
        return (int) ((state >>> 33) % bound);
    }

    private int oneOf(int... numbers) {
        return numbers[below(numbers.length)];
    }

    /** Mostly as it is given, now and then a wrong number. */
    private int mostly(int number) {
        return below(60) == 0 ? oneOf(-1, 4, 13, 1001, 65_537, 100_001, 100_000_001, Integer.MIN_VALUE,
                Integer.MAX_VALUE) : number;
    }

    private int share(int most) {
        return below(12) == 0 ? oneOf(0, 100_000) : below(most + 1);
    }

    private void play(int run) {
        AlloyPlans x = new AlloyPlans();
        PlainModel y = new PlainModel();
        int mostSteps = run % 40 == 0 ? 12 : oneOf(2, 3, 4);
        int mostShare = oneOf(20, 1_000, 100_000);
        boolean isGreat = run % 3 == 0;
        for (int call = 0; call < CALLS; call++) {
            int choice = call < OPENING ? 0 : below(100);
            String told = "run " + run + " call " + call;
            if (choice < 32) {
                tell(told, x, y, mostSteps, mostShare, isGreat);
            } else if (choice < 48) {
                plan(told, x, y);
            } else if (choice < 52) {
                add(told, x, y);
            } else {
                ask(told, x, y);
            }
        }
    }

    private void tell(String told, AlloyPlans x, PlainModel y, int mostSteps, int mostShare, boolean isGreat) {
        int element = mostly(below(4));
        int of = mostly(below(4));
        int low = mostly(share(mostShare));
        int high = below(30) == 0 ? low - 1 : mostly(Math.min(100_000, low + share(mostShare)));
        switch (below(9)) {
            case 0 -> {
                int kilos = mostly(isGreat ? oneOf(65_536, 65_535, 60_000) : 1 + below(20));
                same(told + " heat " + kilos, () -> x.heat(kilos), () -> y.heat(kilos));
            }
            case 1 -> same(told + " present", () -> x.present(element, low / 16, high / 16),
                    () -> y.present(element, low / 16, high / 16));
            case 2, 3 -> {
                int aimLow = below(3) == 0 ? 0 : low / oneOf(4, 16, 64);
                int aimHigh = below(3) > 0 ? 100_000 : high;
                same(told + " aim", () -> x.aim(element, aimLow, aimHigh), () -> y.aim(element, aimLow, aimHigh));
            }
            case 4, 5 -> {
                int cents = mostly(oneOf(0, 1, 2, 3, 5, 10, 100_000));
                int kilos = mostly(isGreat ? oneOf(1, 997, 1_000) : 1 + below(4));
                int steps = mostly(below(mostSteps + 1));
                same(told + " kind", () -> x.kind(cents, kilos, steps), () -> y.kind(cents, kilos, steps));
            }
            case 6, 7 -> same(told + " holds", () -> x.holds(of, element, low, high),
                    () -> y.holds(of, element, low, high));
            default -> {
                int thousandths = mostly(oneOf(1_000, 999, 500, 333, 1, 0));
                int cooling = mostly(oneOf(0, 1, 2, 3, 1_000));
                same(told + " yields", () -> x.yields(of, thousandths, cooling),
                        () -> y.yields(of, thousandths, cooling));
            }
        }
    }

    private void plan(String told, AlloyPlans x, PlainModel y) {
        int heatLeft = mostly(oneOf(0, 3, 10, 20, 2_000, 100_000_000));
        String answer = same(told + " run " + heatLeft, () -> x.run(heatLeft), () -> y.run(heatLeft));
        if (answer.length() == 1 && answer.charAt(0) >= '1' && answer.charAt(0) <= '4') {
            named[answer.charAt(0) - '1']++;
        }
        if (answer.equals("0")) {
            plansFound++;
            plansOfTwo += y.planned(2) > 1 ? 1 : 0;
        }
    }

    private void add(String told, AlloyPlans x, PlainModel y) {
        String answer = same(told + " add", x::add, y::add);
        addings += Character.isDigit(answer.charAt(0)) ? 1 : 0;
        overfull += answer.equals(Check.MEANING.getName()) ? 1 : 0;
    }

    private void ask(String told, AlloyPlans x, PlainModel y) {
        int element = mostly(below(4));
        int end = mostly(below(2));
        int part = mostly(below(2));
        int number = mostly(below(5));
        int what = mostly(below(10));
        switch (below(5)) {
            case 0 -> same(told + " steps " + number, () -> x.steps(number), () -> y.steps(number));
            case 1 -> same(told + " planned " + number, () -> x.planned(number), () -> y.planned(number));
            case 2 -> same(told + " order " + number, () -> x.order(number), () -> y.order(number));
            case 3 -> same(told + " after " + element + " " + end + " " + part, () -> x.after(element, end, part),
                    () -> y.after(element, end, part));
            default -> same(told + " heatAt " + what, () -> x.heatAt(what), () -> y.heatAt(what));
        }
    }

    private static String same(String told, Check.Call got, Check.Call want) {
        String due = Check.outcome(want);
        Check.same(told, due, Check.outcome(got));
        return due;
    }

    private static void same(String told, Check.Deed got, Check.Deed want) {
        Check.same(told, Check.outcome(want), Check.outcome(got));
    }

    /** A model that is only ever asked for empty plans would show nothing. */
    private void tellsWhetherItSawMuch() {
        System.out.println(plansFound + " plans, " + plansOfTwo + " of two kinds or more, named "
                + java.util.Arrays.toString(named) + ", " + addings + " addings, " + overfull + " overfull");
        boolean isMuch = plansOfTwo >= 500 && addings >= 1_000 && overfull >= 20;
        for (int count : named) {
            isMuch = isMuch && count >= 100;
        }
        Check.same("the runs saw", "much", isMuch ? "much" : "little");
    }
}
