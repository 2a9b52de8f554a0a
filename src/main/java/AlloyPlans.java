/**
 * Alloys added to a heat in whole steps at least cost.
 *
 * <p>Spans of shares are kept in rows of ends: the low end of element e stands at place 2 e, its high end at
 * place 2 e + 1. What is HELD at a place is a share times its kilos times thousandths of yield, so that every
 * sum stays a whole number; the largest one is below 10 to the 14th.
 */
public final class AlloyPlans {
    private static final int ELEMENTS = 4;
    private static final int PLACES = 2 * ELEMENTS;
    private static final int MOST_KINDS = 4;
    private static final int MOST_SHARE = 100_000;
    private static final int MOST_HEAT_KILOS = 65_536;
    private static final int MOST_CENTS = 100_000;
    private static final int MOST_STEP_KILOS = 1_000;
    private static final int MOST_STEPS = 12;
    private static final int WHOLE_YIELD = 1_000;
    private static final int MOST_COOLING = 1_000;
    private static final int MOST_HEAT_LEFT = 100_000_000;

    private static final int PLANNED_CENTS = 0;
    private static final int PLANNED_KILOS = 1;
    private static final int PLANNED_KINDS = 2;
    private static final int PLANNED_COOLING = 3;
    private static final int HEAT_KILOS = 0;
    private static final int HEAT_CENTS = PLACES + 1;

    /** Far above what Euclid's way needs for numbers below 10 to the 14th (about 70). */
    private static final int MOST_DIVISIONS = 200;

    private final Melt melt;
    private final Alloy[] alloys;
    private final Plan plan;
    private final Search search;
    private int kindCount;

    public AlloyPlans() {
        melt = new Melt();
        alloys = new Alloy[MOST_KINDS];
        for (int kind = 0; kind < alloys.length; kind++) {
            alloys[kind] = new Alloy();
        }
        plan = new Plan();
        search = new Search();
        kindCount = 0;
    }

    public void heat(int kilos) throws IllegalStateException, IllegalArgumentException {
        if (melt.additions > 0) {
            throw new IllegalStateException("something was added");
        }
        requireRange(isWithin(kilos, 1, MOST_HEAT_KILOS));
        melt.kilos = kilos;
        plan.forget();
    }

    public void present(int element, int low, int high) throws IndexOutOfBoundsException, IllegalArgumentException {
        requireIndex(isWithin(element, 0, ELEMENTS - 1));
        requireRange(isSpan(low, high));
        tell(melt.presentEnds, element, low, high);
    }

    public void aim(int element, int low, int high) throws IndexOutOfBoundsException, IllegalArgumentException {
        requireIndex(isWithin(element, 0, ELEMENTS - 1));
        requireRange(isSpan(low, high));
        tell(melt.aimEnds, element, low, high);
    }

    public int kind(int cents, int kilos, int steps) throws IllegalArgumentException, UnsupportedOperationException {
        requireRange(isWithin(cents, 0, MOST_CENTS)
                && isWithin(kilos, 1, MOST_STEP_KILOS)
                && isWithin(steps, 0, MOST_STEPS));
        if (kindCount >= alloys.length) {
            throw new UnsupportedOperationException("there are 4 kinds");
        }
        int number = kindCount;
        alloys[number].cents = cents;
        alloys[number].kilos = kilos;
        alloys[number].mostSteps = steps;
        kindCount = number + 1;
        plan.forget();
        return number;
    }

    public void holds(int kind, int element, int low, int high)
            throws IndexOutOfBoundsException, IllegalArgumentException {
        requireIndex(isKind(kind) && isWithin(element, 0, ELEMENTS - 1));
        requireRange(isSpan(low, high));
        tell(alloys[kind].ends, element, low, high);
    }

    public void yields(int kind, int thousandths, int cooling)
            throws IndexOutOfBoundsException, IllegalArgumentException {
        requireIndex(isKind(kind));
        requireRange(isWithin(thousandths, 0, WHOLE_YIELD) && isWithin(cooling, 0, MOST_COOLING));
        alloys[kind].thousandths = thousandths;
        alloys[kind].cooling = cooling;
        plan.forget();
    }

    public int run(int heatLeft) throws IllegalArgumentException {
        requireRange(isWithin(heatLeft, 0, MOST_HEAT_LEFT));
        plan.forget();
        search.goThrough(melt, alloys, kindCount, heatLeft);
        if (!search.found) {
            return 1 + search.mostMet;
        }
        plan.settle(search.best, alloys, kindCount);
        return 0;
    }

    public int steps(int kind) throws IndexOutOfBoundsException, IllegalStateException {
        requireIndex(isKind(kind));
        requirePlan();
        return plan.taken[kind];
    }

    public int planned(int what) throws IndexOutOfBoundsException, IllegalStateException {
        requireIndex(isWithin(what, PLANNED_CENTS, PLANNED_COOLING));
        requirePlan();
        switch (what) {
            case PLANNED_CENTS:
                return plan.cents;
            case PLANNED_KILOS:
                return plan.kilos;
            case PLANNED_KINDS:
                return plan.kinds;
            default:
                return plan.cooling;
        }
    }

    public int order(int k) throws IndexOutOfBoundsException, IllegalStateException {
        requireIndex(k >= 0);
        requirePlan();
        for (int kind = 0; kind < kindCount && kind < alloys.length; kind++) {
            if (plan.isTaken(kind) && countAddedBefore(kind) == k) {
                return kind;
            }
        }
        return -1;
    }

    public long after(int element, int end, int part) throws IndexOutOfBoundsException, IllegalStateException {
        requireIndex(isWithin(element, 0, ELEMENTS - 1) && isWithin(end, 0, 1) && isWithin(part, 0, 1));
        requirePlan();
        long upper = heldByPlan(2 * element + end);
        long lower = wholeByPlan();
        return quotient(part == 0 ? upper : lower, commonDivisor(upper, lower));
    }

    public int add() throws IllegalStateException, UnsupportedOperationException {
        requirePlan();
        if (melt.kilos + plan.kilos > MOST_HEAT_KILOS) {
            throw new UnsupportedOperationException("the heat would have more than 65,536 kilos");
        }
        for (int place = 0; place < melt.presentEnds.length; place++) {
            melt.presentEnds[place] = roundedByPlan(place);
        }
        // Only now, as the ends by the plan are told by the kilos from before.
        melt.kilos += plan.kilos;
        melt.cents += plan.cents;
        melt.additions++;
        plan.forget();
        return melt.additions - 1;
    }

    public long heatAt(int what) throws IndexOutOfBoundsException {
        requireIndex(isWithin(what, HEAT_KILOS, HEAT_CENTS));
        if (what == HEAT_KILOS) {
            return melt.kilos;
        }
        if (what == HEAT_CENTS) {
            return melt.cents;
        }
        return melt.presentEnds[what - 1];
    }

    private static void requireIndex(boolean isSuch) {
        if (!isSuch) {
            throw new IndexOutOfBoundsException("no such number");
        }
    }

    private static void requireRange(boolean isInRange) {
        if (!isInRange) {
            throw new IllegalArgumentException("out of range");
        }
    }

    private void requirePlan() {
        if (!plan.stands) {
            throw new IllegalStateException("there is no plan");
        }
    }

    private static boolean isWithin(int number, int least, int most) {
        return number >= least && number <= most;
    }

    private static boolean isSpan(int low, int high) {
        return low >= 0 && low <= high && high <= MOST_SHARE;
    }

    private boolean isKind(int kind) {
        return kind >= 0 && kind < kindCount && kind < alloys.length;
    }

    private static boolean isLowEnd(int place) {
        return place % 2 == 0;
    }

    private void tell(int[] ends, int element, int low, int high) {
        ends[2 * element] = low;
        ends[2 * element + 1] = high;
        plan.forget();
    }

    private int countAddedBefore(int kind) {
        int count = 0;
        for (int other = 0; other < kindCount && other < alloys.length; other++) {
            if (other != kind && plan.isTaken(other) && isAddedBefore(other, kind)) {
                count++;
            }
        }
        return count;
    }

    private boolean isAddedBefore(int one, int other) {
        int difference = alloys[one].cooling - alloys[other].cooling;
        return difference > 0 || difference == 0 && one < other;
    }

    private long heldByPlan(int place) {
        long held = melt.heldAt(place);
        for (int kind = 0; kind < kindCount && kind < alloys.length; kind++) {
            held += plan.taken[kind] * alloys[kind].heldInStepAt(place);
        }
        return held;
    }

    /** What would be held if the share were 1 and nothing were lost. */
    private long wholeByPlan() {
        return (long) WHOLE_YIELD * (melt.kilos + plan.kilos);
    }

    private int roundedByPlan(int place) {
        long held = heldByPlan(place);
        long whole = wholeByPlan();
        return (int) quotient(isLowEnd(place) ? held : held + whole - 1, whole);
    }

    private static long quotient(long upper, long lower) {
        return lower > 0 ? upper / lower : 0;
    }

    private static long commonDivisor(long one, long other) {
        long divisor = one;
        long rest = other;
        for (int i = 0; i < MOST_DIVISIONS && rest != 0; i++) {
            long next = divisor % rest;
            divisor = rest;
            rest = next;
        }
        return divisor;
    }

    /** How far a low end lies above what is asked, or a high end below it; the aim's end is kept when not below 0. */
    private static long surplusAt(int place, long held, long asked) {
        return isLowEnd(place) ? held - asked : asked - held;
    }

    /** The heat and what is asked of it. */
    private static final class Melt {
        int kilos;
        int additions;
        long cents;
        final int[] presentEnds;
        final int[] aimEnds;

        Melt() {
            kilos = 1;
            presentEnds = new int[PLACES];
            aimEnds = new int[PLACES];
            for (int place = 0; place < aimEnds.length; place++) {
                aimEnds[place] = isLowEnd(place) ? 0 : MOST_SHARE;
            }
        }

        long heldAt(int place) {
            return (long) WHOLE_YIELD * kilos * presentEnds[place];
        }

        long surplusOfHeat(int place) {
            return surplusAt(place, heldAt(place), (long) WHOLE_YIELD * kilos * aimEnds[place]);
        }
    }

    /** A kind of alloy. */
    private static final class Alloy {
        int cents;
        int kilos;
        int mostSteps;
        int thousandths;
        int cooling;
        final int[] ends;
        /** What one step adds to the surplus at each place; told anew by each search. */
        final long[] gains;

        Alloy() {
            kilos = 1;
            thousandths = WHOLE_YIELD;
            ends = new int[PLACES];
            gains = new long[PLACES];
        }

        int coolingOfStep() {
            return kilos * cooling;
        }

        long heldInStepAt(int place) {
            return (long) kilos * ends[place] * thousandths;
        }

        void weighAgainst(int[] aimEnds) {
            for (int place = 0; place < gains.length && place < aimEnds.length; place++) {
                gains[place] = surplusAt(place, heldInStepAt(place), (long) WHOLE_YIELD * kilos * aimEnds[place]);
            }
        }
    }

    /** The plan, while it stands. */
    private static final class Plan {
        boolean stands;
        int cents;
        int kilos;
        int kinds;
        int cooling;
        final int[] taken;

        Plan() {
            taken = new int[MOST_KINDS];
        }

        void forget() {
            stands = false;
        }

        boolean isTaken(int kind) {
            return taken[kind] > 0;
        }

        void settle(int[] steps, Alloy[] alloys, int kindCount) {
            cents = 0;
            kilos = 0;
            kinds = 0;
            cooling = 0;
            for (int kind = 0; kind < kindCount && kind < taken.length; kind++) {
                int count = steps[kind];
                taken[kind] = count;
                cents += count * alloys[kind].cents;
                kilos += count * alloys[kind].kilos;
                kinds += count > 0 ? 1 : 0;
                cooling += count * alloys[kind].coolingOfStep();
            }
            stands = true;
        }
    }

    /** The heat with steps of the first kinds in it. */
    private static final class Mix {
        int cents;
        int kinds;
        int heatLeft;
        final long[] surplus;

        Mix() {
            surplus = new long[PLACES];
        }

        void becomeHeat(Melt melt, int left) {
            cents = 0;
            kinds = 0;
            heatLeft = left;
            for (int place = 0; place < surplus.length; place++) {
                surplus[place] = melt.surplusOfHeat(place);
            }
        }

        void becomeLike(Mix other) {
            cents = other.cents;
            kinds = other.kinds;
            heatLeft = other.heatLeft;
            System.arraycopy(other.surplus, 0, surplus, 0, surplus.length);
        }

        void takeStep(Alloy alloy, boolean isFirst) {
            cents += alloy.cents;
            kinds += isFirst ? 1 : 0;
            heatLeft -= alloy.coolingOfStep();
            for (int place = 0; place < surplus.length; place++) {
                surplus[place] += alloy.gains[place];
            }
        }

        /** How many elements are met, from 0 on without a gap. */
        int countMet() {
            for (int place = 0; place < surplus.length; place++) {
                if (surplus[place] < 0) {
                    return place / 2;
                }
            }
            return ELEMENTS;
        }
    }

    /** Goes through the numbers of steps, kind 0's slowest, so that of equal plans the first one comes first. */
    private static final class Search {
        boolean found;
        /** The most elements from 0 on that some numbers of steps meet: when none is found, the element named. */
        int mostMet;
        final int[] best;
        private int bestCents;
        private int bestKinds;
        private final int[] tried;
        /** At each place k the heat with steps of the kinds before k. */
        private final Mix[] mixes;

        Search() {
            best = new int[MOST_KINDS];
            tried = new int[MOST_KINDS];
            mixes = new Mix[MOST_KINDS + 1];
            for (int k = 0; k < mixes.length; k++) {
                mixes[k] = new Mix();
            }
        }

        void goThrough(Melt melt, Alloy[] alloys, int kindCount, int heatLeft) {
            found = false;
            mostMet = 0;
            for (int kind = 0; kind < kindCount && kind < alloys.length; kind++) {
                alloys[kind].weighAgainst(melt.aimEnds);
            }
            mixes[0].becomeHeat(melt, heatLeft);
            tryKindsFrom(0, alloys, kindCount);
        }

        private void tryKindsFrom(int kind, Alloy[] alloys, int kindCount) {
            if (kind >= kindCount || kind >= alloys.length || kind >= tried.length) {
                judge(mixes[kind]);
                return;
            }
            Alloy alloy = alloys[kind];
            Mix mix = mixes[kind + 1];
            mix.becomeLike(mixes[kind]);
            for (int count = 0; count <= alloy.mostSteps; count++) {
                if (count > 0) {
                    mix.takeStep(alloy, count == 1);
                }
                if (!isWorthTrying(mix)) {
                    return;
                }
                tried[kind] = count;
                tryKindsFrom(kind + 1, alloys, kindCount);
            }
        }

        /** Further steps never lower the cents, the kinds or the cooling: what fails here fails with more of them. */
        private boolean isWorthTrying(Mix mix) {
            if (mix.heatLeft < 0) {
                return false;
            }
            return !found || mix.cents < bestCents || mix.cents == bestCents && mix.kinds < bestKinds;
        }

        private void judge(Mix mix) {
            int met = mix.countMet();
            mostMet = Math.max(mostMet, met);
            if (met < ELEMENTS) {
                return;
            }
            found = true;
            bestCents = mix.cents;
            bestKinds = mix.kinds;
            System.arraycopy(tried, 0, best, 0, best.length);
        }
    }
}
