/** What present, aim and holds ask alike of an element and its span of shares. */
final class SpanChecks {
    interface Telling {
        void tell(int element, int low, int high);
    }

    private SpanChecks() {
    }

    static void check(String name, AlloyPlans x, int kinds, Telling telling) {
        int[][] bad = {{5, 4}, {-1, 4}, {0, 100_001}, {100_001, 100_001}, {-2, -1}, {100_000, 0},
            {Integer.MIN_VALUE, 0}, {0, Integer.MAX_VALUE}, {Integer.MAX_VALUE, Integer.MIN_VALUE}};
        String before = Check.seen(x, kinds);
        Check.planStands(name + " starts", x);
        for (int[] span : bad) {
            for (int i = 0; i < 4; i++) {
                int element = i;
                Check.refuses(name + " " + element + " " + span[0] + " " + span[1], Check.RANGE,
                        () -> telling.tell(element, span[0], span[1]));
            }
        }
        refusesElement(name, telling, 4);
        for (int element : Check.FAR_OUT) {
            refusesElement(name, telling, element);
        }
        Check.same(name + " refused changes nothing", before, Check.seen(x, kinds));
        int[][] good = {{0, 0}, {0, 100_000}, {100_000, 100_000}, {3, 3}, {4, 5}};
        for (int[] span : good) {
            for (int i = 0; i < 4; i++) {
                int element = i;
                Check.same(name + " " + element + " " + span[0] + " " + span[1], "done",
                        Check.outcome(() -> telling.tell(element, span[0], span[1])));
                Check.planIsForgotten(name + " told", x);
            }
        }
    }

    private static void refusesElement(String name, Telling telling, int element) {
        Check.refuses(name + " of no such element " + element, Check.INDEX, () -> telling.tell(element, 0, 1));
        Check.refuses(name + ": index comes before range", Check.INDEX, () -> telling.tell(element, 5, 4));
    }
}
