import java.math.BigInteger;

/** The document's words once more, in their plainest form: every number of steps, nothing kept or cut short. */
final class PlainModel {
    private int kilos = 1;
    private final int[][] present = new int[4][2];
    private final int[][] aim = {{0, 100_000}, {0, 100_000}, {0, 100_000}, {0, 100_000}};
    private int kinds = 0;
    private final int[][] kind = new int[4][3];
    private final int[][][] holds = new int[4][4][2];
    private final int[][] yields = {{1000, 0}, {1000, 0}, {1000, 0}, {1000, 0}};
    private int[] plan = null;
    private int addings = 0;
    private long spent = 0;

    private static void index(boolean right) {
        if (!right) {
            throw new IndexOutOfBoundsException();
        }
    }

    private static void turn(boolean right) {
        if (!right) {
            throw new IllegalStateException();
        }
    }

    private static void range(boolean right) {
        if (!right) {
            throw new IllegalArgumentException();
        }
    }

    private static void meaning(boolean right) {
        if (!right) {
            throw new UnsupportedOperationException();
        }
    }

    private static boolean span(int low, int high) {
        return 0 <= low && low <= high && high <= 100_000;
    }

    private static boolean element(int element) {
        return 0 <= element && element <= 3;
    }

    void heat(int told) {
        turn(addings == 0);
        range(1 <= told && told <= 65_536);
        kilos = told;
        plan = null;
    }

    void present(int element, int low, int high) {
        index(element(element));
        range(span(low, high));
        present[element] = new int[] {low, high};
        plan = null;
    }

    void aim(int element, int low, int high) {
        index(element(element));
        range(span(low, high));
        aim[element] = new int[] {low, high};
        plan = null;
    }

    int kind(int cents, int stepKilos, int steps) {
        range(0 <= cents && cents <= 100_000);
        range(1 <= stepKilos && stepKilos <= 1_000);
        range(0 <= steps && steps <= 12);
        meaning(kinds < 4);
        kind[kinds] = new int[] {cents, stepKilos, steps};
        plan = null;
        return kinds++;
    }

    void holds(int of, int element, int low, int high) {
        index(0 <= of && of < kinds && element(element));
        range(span(low, high));
        holds[of][element] = new int[] {low, high};
        plan = null;
    }

    void yields(int of, int thousandths, int cooling) {
        index(0 <= of && of < kinds);
        range(0 <= thousandths && thousandths <= 1_000 && 0 <= cooling && cooling <= 1_000);
        yields[of] = new int[] {thousandths, cooling};
        plan = null;
    }

    int run(int heatLeft) {
        range(0 <= heatLeft && heatLeft <= 100_000_000);
        plan = null;
        boolean[] canMeetUpTo = new boolean[4];
        for (int a = 0; a <= kind[0][2]; a++) {
            for (int b = 0; b <= kind[1][2]; b++) {
                for (int c = 0; c <= kind[2][2]; c++) {
                    for (int d = 0; d <= kind[3][2]; d++) {
                        weigh(new int[] {a, b, c, d}, heatLeft, canMeetUpTo);
                    }
                }
            }
        }
        for (int e = 0; e < 4; e++) {
            if (!canMeetUpTo[e]) {
                return 1 + e;
            }
        }
        return 0;
    }

    private void weigh(int[] steps, int heatLeft, boolean[] canMeetUpTo) {
        if (cooling(steps) > heatLeft) {
            return;
        }
        for (int e = 0; e < 4; e++) {
            if (!isMet(steps, e)) {
                return;
            }
            canMeetUpTo[e] = true;
        }
        if (plan == null || isBetter(steps, plan)) {
            plan = steps;
        }
    }

    private boolean isMet(int[] steps, int element) {
        long all = 1000L * allKilos(steps);
        return upper(steps, element, 0) >= all * aim[element][0] && upper(steps, element, 1) <= all * aim[element][1];
    }

    long upper(int[] steps, int element, int end) {
        long sum = 1000L * kilos * present[element][end];
        for (int i = 0; i < 4; i++) {
            sum += (long) steps[i] * kind[i][1] * holds[i][element][end] * yields[i][0];
        }
        return sum;
    }

    private boolean isBetter(int[] one, int[] other) {
        if (cents(one) != cents(other)) {
            return cents(one) < cents(other);
        }
        if (used(one) != used(other)) {
            return used(one) < used(other);
        }
        return java.util.Arrays.compare(one, other) < 0;
    }

    private int cents(int[] steps) {
        return steps[0] * kind[0][0] + steps[1] * kind[1][0] + steps[2] * kind[2][0] + steps[3] * kind[3][0];
    }

    private int kilos(int[] steps) {
        return steps[0] * kind[0][1] + steps[1] * kind[1][1] + steps[2] * kind[2][1] + steps[3] * kind[3][1];
    }

    int allKilos(int[] steps) {
        return kilos + kilos(steps);
    }

    private int used(int[] steps) {
        return (int) java.util.Arrays.stream(steps).filter(n -> n > 0).count();
    }

    int cooling(int[] steps) {
        int sum = 0;
        for (int i = 0; i < 4; i++) {
            sum += steps[i] * kind[i][1] * yields[i][1];
        }
        return sum;
    }

    int steps(int of) {
        index(0 <= of && of < kinds);
        turn(plan != null);
        return plan[of];
    }

    int planned(int what) {
        index(0 <= what && what <= 3);
        turn(plan != null);
        return new int[] {cents(plan), kilos(plan), used(plan), cooling(plan)}[what];
    }

    int order(int k) {
        index(k >= 0);
        turn(plan != null);
        java.util.List<Integer> taken = new java.util.ArrayList<>();
        for (int i = 0; i < 4; i++) {
            if (plan[i] > 0) {
                taken.add(i);
            }
        }
        taken.sort((one, other) -> yields[other][1] - yields[one][1]);
        return k < taken.size() ? taken.get(k) : -1;
    }

    long after(int element, int end, int part) {
        index(element(element) && 0 <= end && end <= 1 && 0 <= part && part <= 1);
        turn(plan != null);
        BigInteger upper = BigInteger.valueOf(upper(plan, element, end));
        BigInteger lower = BigInteger.valueOf(1000L * allKilos(plan));
        return (part == 0 ? upper : lower).divide(upper.gcd(lower)).longValueExact();
    }

    int add() {
        turn(plan != null);
        int all = allKilos(plan);
        meaning(all <= 65_536);
        for (int e = 0; e < 4; e++) {
            long low = Math.floorDiv(upper(plan, e, 0), 1000L * all);
            long high = -Math.floorDiv(-upper(plan, e, 1), 1000L * all);
            present[e] = new int[] {(int) low, (int) high};
        }
        spent += cents(plan);
        kilos = all;
        plan = null;
        return addings++;
    }

    long heatAt(int what) {
        index(0 <= what && what <= 9);
        if (what == 0) {
            return kilos;
        }
        return what == 9 ? spent : present[(what - 1) / 2][(what - 1) % 2];
    }
}
