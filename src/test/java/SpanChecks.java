/** What present, aim and holds ask alike of an element and its span of shares. */
final class SpanChecks {
    interface Telling {
        void tell(AlloyPlans x, int element, int low, int high);
    }

    private SpanChecks() {
    }

    static void noSuchElement(Telling telling) {
        AlloyPlans x = Check.withPlan();
        for (int element : new int[] {-1, 4, 5, 8}) {
            refusesElement(x, telling, element);
        }
        for (int element : Check.FAR_OUT) {
            refusesElement(x, telling, element);
        }
        for (int i = 0; i < 4; i++) {
            int element = i;
            Check.same("element " + element, "done", Check.outcome(() -> telling.tell(x, element, 0, 1)));
        }
    }

    private static void refusesElement(AlloyPlans x, Telling telling, int element) {
        Check.refuses("no element " + element, Check.INDEX, () -> telling.tell(x, element, 0, 1));
    }

    static void sharesOutOfRange(Telling telling) {
        refusesSpans(telling, new int[][] {{-1, 4}, {-1, 100_000}, {0, 100_001}, {100_000, 100_001},
            {100_001, 100_001}, {-2, -1}, {Integer.MIN_VALUE, 0}, {0, Integer.MAX_VALUE},
            {Integer.MIN_VALUE, Integer.MAX_VALUE}});
        takesSpans(telling, new int[][] {{0, 0}, {0, 100_000}, {100_000, 100_000}, {99_999, 100_000}});
    }

    static void lowAboveHigh(Telling telling) {
        refusesSpans(telling, new int[][] {{1, 0}, {5, 4}, {100_000, 99_999}, {100_000, 0}});
        takesSpans(telling, new int[][] {{0, 0}, {3, 3}, {4, 5}, {100_000, 100_000}});
    }

    private static void refusesSpans(Telling telling, int[][] spans) {
        AlloyPlans x = Check.withPlan();
        for (int[] span : spans) {
            for (int i = 0; i < 4; i++) {
                int element = i;
                Check.refuses(element + ": " + span[0] + " .. " + span[1], Check.RANGE,
                        () -> telling.tell(x, element, span[0], span[1]));
            }
        }
    }

    private static void takesSpans(Telling telling, int[][] spans) {
        AlloyPlans x = Check.withPlan();
        for (int[] span : spans) {
            for (int i = 0; i < 4; i++) {
                int element = i;
                Check.same(element + ": " + span[0] + " .. " + span[1], "done",
                        Check.outcome(() -> telling.tell(x, element, span[0], span[1])));
            }
        }
    }
}
