/** The section 'Terms', its fourth and fifth paragraph: which plan it is, what is named, the order of adding. */
public final class TermsPlanTest {
    public static void main(String[] args) {
        Check.sentence("numbers of steps by which all elements are met", TermsPlanTest::meetsAllAtOnce);
        Check.sentence("numbers of steps: every one of them", TermsPlanTest::goesThroughAllNumbers);
        Check.sentence("and the cooling (kilos added times what they cool, summed) is not above the heat left",
                TermsPlanTest::keepsWithinTheHeatLeft);
        Check.sentence("is not above the heat left: at the greatest numbers", TermsPlanTest::takesTheGreatestNumbers);
        Check.sentence("is not above the heat left: of 0", TermsPlanTest::keepsWithinNoHeatLeft);
        Check.sentence("of least cents", TermsPlanTest::takesLeastCents);
        Check.sentence("of least cents: one cent at the greatest", TermsPlanTest::takesOneCentLess);
        Check.sentence("of the same with the fewest kinds", TermsPlanTest::takesFewestKindsOfTheSameCents);
        Check.sentence("kinds (with a step or more)", TermsPlanTest::countsKindsNotSteps);
        Check.sentence("of the same the first one (of kind 0 the fewest steps, then of kind 1, ..)",
                TermsPlanTest::takesTheFirstOfTheSameKinds);
        Check.sentence("A PLAN: of no step, where all is met", TermsPlanTest::addsNothingForNothing);
        Check.sentence("When there is none, the element e is NAMED that is the lowest for which no numbers of steps"
                + " meet the elements 0 .. e", TermsPlanTest::namesTheLowestUnmet);
        Check.sentence("meet the elements 0 .. e: together, not each alone", TermsPlanTest::namesWhatIsNotMetTogether);
        Check.sentence("within the heat left", TermsPlanTest::namesWithinTheHeatLeft);
        Check.sentence("THE ORDER OF ADDING: kinds of the plan by what they cool for each kilo, most first, of the"
                + " same by numbers", TermsPlanTest::ordersByCooling);
        Check.end();
    }

    /** Kinds of cents, kilos, steps and a share of element 0. */
    private static AlloyPlans ofKinds(int kilos, int[][] kinds) {
        AlloyPlans x = new AlloyPlans();
        x.heat(kilos);
        for (int kind = 0; kind < kinds.length; kind++) {
            x.kind(kinds[kind][0], kinds[kind][1], kinds[kind][2]);
            x.holds(kind, 0, kinds[kind][3], kinds[kind][3]);
        }
        return x;
    }

    private static void hasSteps(String told, AlloyPlans x, int... due) {
        for (int i = 0; i < due.length; i++) {
            int kind = i;
            Check.gives(told + ", steps of " + kind, due[kind], () -> x.steps(kind));
        }
    }

    private static void meetsAllAtOnce() {
        AlloyPlans x = new AlloyPlans();
        x.heat(100);
        x.kind(1, 1, 12);
        x.holds(0, 0, 10_000, 10_000);
        x.holds(0, 1, 0, 10_000);
        x.aim(0, 300, 100_000);
        x.aim(1, 0, 300);
        Check.gives("element 0 asks four steps, element 1 bears three", 2, () -> x.run(0));
        x.aim(1, 0, 385);
        Check.gives("element 1 bears four steps", 0, () -> x.run(0));
        hasSteps("four", x, 4);
        x.aim(1, 0, 384);
        Check.gives("just below 40000 / 104", 2, () -> x.run(0));
    }

    private static void goesThroughAllNumbers() {
        AlloyPlans x = ofKinds(1000, new int[][] {{7, 1, 12, 100_000}, {11, 1, 12, 0}, {13, 1, 12, 0}, {17, 1, 12, 0}});
        x.holds(1, 1, 100_000, 100_000);
        x.holds(2, 2, 100_000, 100_000);
        x.holds(3, 3, 100_000, 100_000);
        for (int n = 0; n < 50; n++) {
            int[] due = {n % 13, n * 5 % 13, n * 7 % 13, n * 11 % 13};
            int all = 1000 + due[0] + due[1] + due[2] + due[3];
            for (int element = 0; element < 4; element++) {
                int share = due[element] * 100_000 / all;
                x.aim(element, share, share + 1);
            }
            Check.gives("run " + n, 0, () -> x.run(0));
            hasSteps("the only numbers that fit, " + n, x, due);
        }
    }

    private static void keepsWithinTheHeatLeft() {
        AlloyPlans x = ofKinds(10, new int[][] {{1, 2, 5, 1000}, {9, 2, 5, 1000}});
        x.yields(0, 1000, 50);
        x.yields(1, 1000, 3);
        x.aim(0, 250, 100_000);
        Check.gives("enough for the cheap one", 0, () -> x.run(200));
        hasSteps("cheap", x, 2, 0);
        Check.gives("cooling", 200, () -> x.planned(3));
        Check.gives("one of each", 0, () -> x.run(199));
        hasSteps("mixed", x, 1, 1);
        Check.gives("still one of each", 0, () -> x.run(106));
        hasSteps("still mixed", x, 1, 1);
        Check.gives("only the dear one", 0, () -> x.run(105));
        hasSteps("dear", x, 0, 2);
        Check.gives("just enough", 0, () -> x.run(12));
        Check.gives("too little", 1, () -> x.run(11));
    }

    private static void takesTheGreatestNumbers() {
        AlloyPlans x = new AlloyPlans();
        x.heat(65_536);
        for (int element = 0; element < 4; element++) {
            x.present(element, 0, 100_000);
            x.aim(element, 0, 57_723);
        }
        for (int kind = 0; kind < 4; kind++) {
            x.kind(100_000, 1_000, 12);
            x.yields(kind, 1000, 1000);
        }
        Check.gives("all 48 steps thin to 57722.66..", 0, () -> x.run(48_000_000));
        hasSteps("all", x, 12, 12, 12, 12);
        Check.gives("cents", 4_800_000, () -> x.planned(0));
        Check.gives("kilos", 48_000, () -> x.planned(1));
        Check.gives("cooling", 48_000_000, () -> x.planned(3));
        Check.gives("a little less heat", 1, () -> x.run(47_999_999));
        x.aim(3, 0, 57_722);
        Check.gives("more than that is not to be had", 4, () -> x.run(100_000_000));
    }

    private static void keepsWithinNoHeatLeft() {
        AlloyPlans x = ofKinds(10, new int[][] {{1, 1, 5, 1000}, {9, 1, 5, 1000}});
        x.yields(0, 1000, 1);
        x.aim(0, 80, 100_000);
        Check.gives("run", 0, () -> x.run(0));
        hasSteps("what cools by 1 is too much, what does not is fine", x, 0, 1);
        Check.gives("run of one", 0, () -> x.run(1));
        hasSteps("what cools by 1", x, 1, 0);
    }

    private static void takesLeastCents() {
        AlloyPlans x = ofKinds(10, new int[][] {{9, 1, 5, 1000}, {5, 1, 5, 600}, {8, 1, 5, 1000}});
        x.aim(0, 1, 100_000);
        Check.gives("run", 0, () -> x.run(0));
        hasSteps("a kind that is cheaper", x, 0, 1, 0);
        x.aim(0, 80, 100_000);
        x.run(0);
        hasSteps("a kind that is stronger", x, 0, 0, 1);
        x.aim(0, 150, 100_000);
        x.run(0);
        hasSteps("a kind twice, 16, not three of the cheaper, 15, that miss", x, 0, 0, 2);
        AlloyPlans y = ofKinds(10, new int[][] {{7, 1, 1, 1000}, {3, 1, 2, 500}, {3, 1, 2, 500}});
        y.aim(0, 76, 100_000);
        Check.gives("run", 0, () -> y.run(0));
        hasSteps("two kinds, 6, not one, 7", y, 0, 0, 2);
        y.kind(2, 1, 1);
        y.holds(3, 0, 500, 500);
        y.run(0);
        hasSteps("fewest cents come before fewest kinds", y, 0, 0, 1, 1);
    }

    private static void takesOneCentLess() {
        AlloyPlans x = ofKinds(100, new int[][] {{100_000, 1, 12, 1000}, {99_999, 1, 12, 1000}});
        x.aim(0, 107, 100_000);
        Check.gives("run", 0, () -> x.run(0));
        hasSteps("all of the cheaper", x, 0, 12);
        Check.gives("cents", 1_199_988, () -> x.planned(0));
        x.aim(0, 108, 100_000);
        x.run(0);
        hasSteps("one of the dearer", x, 1, 12);
    }

    private static void takesFewestKindsOfTheSameCents() {
        AlloyPlans x = ofKinds(10, new int[][] {{4, 1, 9, 1000}, {8, 2, 1, 1000}, {12, 3, 1, 1000}});
        x.aim(0, 230, 100_000);
        Check.gives("run", 0, () -> x.run(0));
        hasSteps("one kind comes before a first one of two", x, 0, 0, 1);
        Check.gives("kinds", 1, () -> x.planned(2));
        AlloyPlans free = ofKinds(10, new int[][] {{0, 1, 1, 1000}, {0, 1, 2, 1000}});
        free.aim(0, 160, 100_000);
        Check.gives("run of what costs nothing", 0, () -> free.run(0));
        hasSteps("fewest kinds of what costs nothing", free, 0, 2);
        AlloyPlans first = ofKinds(10, new int[][] {{8, 2, 1, 1000}, {4, 1, 1, 1000}, {4, 1, 1, 1000}});
        first.aim(0, 160, 100_000);
        Check.gives("run", 0, () -> first.run(0));
        hasSteps("one kind, though two others come first by steps", first, 1, 0, 0);
        AlloyPlans two = ofKinds(10, new int[][] {{8, 2, 1, 1000}, {4, 1, 1, 1000}, {4, 1, 1, 1000}, {4, 1, 1, 1000}});
        two.aim(0, 230, 100_000);
        Check.gives("run", 0, () -> two.run(0));
        hasSteps("two kinds, though three others come first by steps", two, 1, 0, 0, 1);
        AlloyPlans late = ofKinds(10, new int[][] {{6, 1, 1, 1500}, {6, 1, 1, 1500}, {4, 1, 3, 1000}});
        late.aim(0, 220, 100_000);
        Check.gives("run", 0, () -> late.run(0));
        hasSteps("the kind that comes last", late, 0, 0, 3);
    }

    private static void countsKindsNotSteps() {
        AlloyPlans more = ofKinds(10, new int[][] {{4, 1, 3, 1000}, {6, 1, 1, 1500}, {6, 1, 1, 1500}});
        more.aim(0, 220, 100_000);
        Check.gives("run of more steps", 0, () -> more.run(0));
        hasSteps("three steps of one kind come before two of two", more, 3, 0, 0);
        Check.gives("kinds", 1, () -> more.planned(2));
    }

    private static void takesTheFirstOfTheSameKinds() {
        AlloyPlans x = ofKinds(10, new int[][] {{5, 1, 3, 1000}, {5, 1, 3, 1000}, {5, 1, 3, 1000}, {5, 1, 3, 1000}});
        x.aim(0, 80, 100_000);
        Check.gives("run", 0, () -> x.run(0));
        hasSteps("of kind 0 the fewest, then of kind 1, then of kind 2", x, 0, 0, 0, 1);
        x.aim(0, 250, 100_000);
        x.run(0);
        hasSteps("two kinds", x, 0, 0, 1, 3);
        x.aim(0, 400, 100_000);
        x.run(0);
        hasSteps("three kinds", x, 0, 1, 3, 3);
        x.aim(0, 500, 100_000);
        x.run(0);
        hasSteps("four kinds", x, 1, 3, 3, 3);
        AlloyPlans free = ofKinds(10, new int[][] {{0, 1, 12, 1000}});
        free.aim(0, 160, 100_000);
        free.run(0);
        hasSteps("the fewest steps of what costs nothing", free, 2);
    }

    private static void addsNothingForNothing() {
        AlloyPlans x = ofKinds(10, new int[][] {{0, 1, 12, 1000}, {0, 1, 12, 0}});
        Check.gives("run", 0, () -> x.run(0));
        hasSteps("free kinds are left out", x, 0, 0);
        Check.gives("kinds", 0, () -> x.planned(2));
        AlloyPlans none = new AlloyPlans();
        Check.gives("a plan without kinds", 0, () -> none.run(0));
        Check.planStands("without kinds", none);
    }

    /** Kind 0 brings element 0, kind 1 element 2; each cools by 10. */
    private static AlloyPlans askingForBoth() {
        AlloyPlans x = new AlloyPlans();
        x.kind(1, 1, 1);
        x.kind(1, 1, 1);
        x.holds(0, 0, 1000, 1000);
        x.holds(1, 2, 1000, 1000);
        x.yields(0, 1000, 10);
        x.yields(1, 1000, 10);
        x.aim(0, 300, 100_000);
        x.aim(2, 300, 100_000);
        return x;
    }

    private static void namesTheLowestUnmet() {
        for (int element = 0; element < 4; element++) {
            AlloyPlans x = new AlloyPlans();
            for (int other = element; other < 4; other++) {
                x.aim(other, 1, 5);
            }
            Check.gives("it and all behind it", 1 + element, () -> x.run(0));
        }
        AlloyPlans y = askingForBoth();
        y.aim(3, 1, 5);
        Check.gives("the first three, not the last", 4, () -> y.run(20));
        y.aim(1, 1, 5);
        Check.gives("the second", 2, () -> y.run(20));
        y.aim(0, 0, 0);
        Check.gives("the first is met, the second not", 2, () -> y.run(0));
    }

    private static void namesWhatIsNotMetTogether() {
        AlloyPlans x = askingForBoth();
        Check.gives("both", 0, () -> x.run(20));
        Check.gives("each could be met alone, not both", 3, () -> x.run(19));
        x.aim(3, 1, 5);
        Check.gives("not the last, that is never met", 3, () -> x.run(19));
        AlloyPlans y = new AlloyPlans();
        y.kind(1, 1, 2);
        y.present(0, 0, 0);
        y.present(3, 90, 90);
        y.holds(0, 0, 90, 90);
        y.aim(0, 45, 45);
        y.aim(3, 30, 30);
        Check.gives("one step meets element 0, two steps element 3", 4, () -> y.run(0));
    }

    private static void namesWithinTheHeatLeft() {
        AlloyPlans x = askingForBoth();
        Check.gives("all heat", 0, () -> x.run(20));
        Check.gives("heat for one step", 3, () -> x.run(10));
        Check.gives("heat for none", 1, () -> x.run(9));
    }

    private static void ordersByCooling() {
        int[][] cooling = {{0, 1, 2, 3}, {3, 2, 1, 0}, {5, 5, 5, 5}, {0, 9, 0, 9}, {1, 3, 3, 2}, {7, 0, 7, 7},
            {1000, 999, 1000, 0}};
        int[][] due = {{3, 2, 1, 0}, {0, 1, 2, 3}, {0, 1, 2, 3}, {1, 3, 0, 2}, {1, 2, 3, 0}, {0, 2, 3, 1},
            {0, 2, 1, 3}};
        for (int i = 0; i < cooling.length; i++) {
            AlloyPlans x = new AlloyPlans();
            for (int kind = 0; kind < 4; kind++) {
                x.kind(1, 4 - kind, 1);
                x.holds(kind, kind, 10_000, 10_000);
                x.yields(kind, 1000, cooling[i][kind]);
                x.aim(kind, 1, 100_000);
            }
            Check.gives("run", 0, () -> x.run(100_000));
            for (int j = 0; j < 4; j++) {
                int k = j;
                Check.gives("order " + k, due[i][k], () -> x.order(k));
            }
        }
    }
}
